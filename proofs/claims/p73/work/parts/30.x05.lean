theorem dX10_firstLeaving_0 : decode cX10_firstLeaving 0 = .ok (.iconst 0, 1) := by decide +kernel
theorem dX10_firstLeaving_1 : decode cX10_firstLeaving 1 = .ok (.istore 5, 2) := by decide +kernel
theorem dX10_firstLeaving_3 : decode cX10_firstLeaving 3 = .ok (.iload 5, 2) := by decide +kernel
theorem dX10_firstLeaving_5 : decode cX10_firstLeaving 5 = .ok (.aload_n 0, 1) := by decide +kernel
theorem dX10_firstLeaving_6 : decode cX10_firstLeaving 6 = .ok (.iload_n 1, 1) := by decide +kernel
theorem dX10_firstLeaving_7 : decode cX10_firstLeaving 7 = .ok (.invokevirtual 55, 3) := by decide +kernel
theorem dX10_firstLeaving_10 : decode cX10_firstLeaving 10 = .ok (.if_icmp .ge 29, 3) := by decide +kernel
theorem dX10_firstLeaving_13 : decode cX10_firstLeaving 13 = .ok (.aload_n 0, 1) := by decide +kernel
theorem dX10_firstLeaving_14 : decode cX10_firstLeaving 14 = .ok (.iload_n 1, 1) := by decide +kernel
theorem dX10_firstLeaving_15 : decode cX10_firstLeaving 15 = .ok (.iload_n 2, 1) := by decide +kernel
theorem dX10_firstLeaving_16 : decode cX10_firstLeaving 16 = .ok (.iload 5, 2) := by decide +kernel
theorem dX10_firstLeaving_18 : decode cX10_firstLeaving 18 = .ok (.iadd, 1) := by decide +kernel
theorem dX10_firstLeaving_19 : decode cX10_firstLeaving 19 = .ok (.iload_n 3, 1) := by decide +kernel
theorem dX10_firstLeaving_20 : decode cX10_firstLeaving 20 = .ok (.invokevirtual 91, 3) := by decide +kernel
theorem dX10_firstLeaving_23 : decode cX10_firstLeaving 23 = .ok (.iload 4, 2) := by decide +kernel
theorem dX10_firstLeaving_25 : decode cX10_firstLeaving 25 = .ok (.if_icmp .ne 8, 3) := by decide +kernel
theorem dX10_firstLeaving_28 : decode cX10_firstLeaving 28 = .ok (.iload_n 2, 1) := by decide +kernel
theorem dX10_firstLeaving_29 : decode cX10_firstLeaving 29 = .ok (.iload 5, 2) := by decide +kernel
theorem dX10_firstLeaving_31 : decode cX10_firstLeaving 31 = .ok (.iadd, 1) := by decide +kernel
theorem dX10_firstLeaving_32 : decode cX10_firstLeaving 32 = .ok (.ireturn, 1) := by decide +kernel
theorem dX10_firstLeaving_33 : decode cX10_firstLeaving 33 = .ok (.iinc 5 1, 3) := by decide +kernel
theorem dX10_firstLeaving_36 : decode cX10_firstLeaving 36 = .ok (.goto (-33), 3) := by decide +kernel
theorem dX10_firstLeaving_39 : decode cX10_firstLeaving 39 = .ok (.iconst (-1), 1) := by decide +kernel
theorem dX10_firstLeaving_40 : decode cX10_firstLeaving 40 = .ok (.ireturn, 1) := by decide +kernel
theorem dX10_gains_0 : decode cX10_gains 0 = .ok (.aload_n 0, 1) := by decide +kernel
theorem dX10_gains_1 : decode cX10_gains 1 = .ok (.iload_n 1, 1) := by decide +kernel
theorem dX10_gains_2 : decode cX10_gains 2 = .ok (.iload_n 2, 1) := by decide +kernel
theorem dX10_gains_3 : decode cX10_gains 3 = .ok (.iload_n 3, 1) := by decide +kernel
theorem dX10_gains_4 : decode cX10_gains 4 = .ok (.invokevirtual 91, 3) := by decide +kernel
theorem dX10_gains_7 : decode cX10_gains 7 = .ok (.aload_n 0, 1) := by decide +kernel
theorem dX10_gains_8 : decode cX10_gains 8 = .ok (.getfield 12, 3) := by decide +kernel
theorem dX10_gains_11 : decode cX10_gains 11 = .ok (.getfield 76, 3) := by decide +kernel
theorem dX10_gains_14 : decode cX10_gains 14 = .ok (.if_icmp .le 7, 3) := by decide +kernel
theorem dX10_gains_17 : decode cX10_gains 17 = .ok (.iconst 1, 1) := by decide +kernel
theorem dX10_gains_18 : decode cX10_gains 18 = .ok (.goto 4, 3) := by decide +kernel
theorem dX10_gains_21 : decode cX10_gains 21 = .ok (.iconst 0, 1) := by decide +kernel
theorem dX10_gains_22 : decode cX10_gains 22 = .ok (.ireturn, 1) := by decide +kernel
theorem dX10_isClear_0 : decode cX10_isClear 0 = .ok (.iconst 1, 1) := by decide +kernel
theorem dX10_isClear_1 : decode cX10_isClear 1 = .ok (.aload_n 0, 1) := by decide +kernel
theorem dX10_isClear_2 : decode cX10_isClear 2 = .ok (.getfield 12, 3) := by decide +kernel
theorem dX10_isClear_5 : decode cX10_isClear 5 = .ok (.getfield 48, 3) := by decide +kernel
theorem dX10_isClear_8 : decode cX10_isClear 8 = .ok (.ishl, 1) := by decide +kernel
theorem dX10_isClear_9 : decode cX10_isClear 9 = .ok (.istore 4, 2) := by decide +kernel
theorem dX10_isClear_11 : decode cX10_isClear 11 = .ok (.iconst 0, 1) := by decide +kernel
theorem dX10_isClear_12 : decode cX10_isClear 12 = .ok (.istore 5, 2) := by decide +kernel
theorem dX10_isClear_14 : decode cX10_isClear 14 = .ok (.iload 5, 2) := by decide +kernel
theorem dX10_isClear_16 : decode cX10_isClear 16 = .ok (.aload_n 0, 1) := by decide +kernel
theorem dX10_isClear_17 : decode cX10_isClear 17 = .ok (.getfield 12, 3) := by decide +kernel
theorem dX10_isClear_20 : decode cX10_isClear 20 = .ok (.getfield 82, 3) := by decide +kernel
theorem dX10_isClear_23 : decode cX10_isClear 23 = .ok (.iload_n 3, 1) := by decide +kernel
theorem dX10_isClear_24 : decode cX10_isClear 24 = .ok (.iaload, 1) := by decide +kernel
theorem dX10_isClear_25 : decode cX10_isClear 25 = .ok (.if_icmp .ge 46, 3) := by decide +kernel
theorem dX10_isClear_28 : decode cX10_isClear 28 = .ok (.iconst 1, 1) := by decide +kernel
theorem dX10_isClear_29 : decode cX10_isClear 29 = .ok (.aload_n 0, 1) := by decide +kernel
theorem dX10_isClear_30 : decode cX10_isClear 30 = .ok (.iload_n 1, 1) := by decide +kernel
theorem dX10_isClear_31 : decode cX10_isClear 31 = .ok (.iload_n 2, 1) := by decide +kernel
theorem dX10_isClear_32 : decode cX10_isClear 32 = .ok (.aload_n 0, 1) := by decide +kernel
theorem dX10_isClear_33 : decode cX10_isClear 33 = .ok (.getfield 12, 3) := by decide +kernel
theorem dX10_isClear_36 : decode cX10_isClear 36 = .ok (.iload_n 3, 1) := by decide +kernel
theorem dX10_isClear_37 : decode cX10_isClear 37 = .ok (.iload 5, 2) := by decide +kernel
theorem dX10_isClear_39 : decode cX10_isClear 39 = .ok (.invokevirtual 85, 3) := by decide +kernel
theorem dX10_isClear_42 : decode cX10_isClear 42 = .ok (.invokevirtual 51, 3) := by decide +kernel
theorem dX10_isClear_45 : decode cX10_isClear 45 = .ok (.ishl, 1) := by decide +kernel
theorem dX10_isClear_46 : decode cX10_isClear 46 = .ok (.istore 6, 2) := by decide +kernel
theorem dX10_isClear_48 : decode cX10_isClear 48 = .ok (.iload 4, 2) := by decide +kernel
theorem dX10_isClear_50 : decode cX10_isClear 50 = .ok (.iload 6, 2) := by decide +kernel
theorem dX10_isClear_52 : decode cX10_isClear 52 = .ok (.iand, 1) := by decide +kernel
theorem dX10_isClear_53 : decode cX10_isClear 53 = .ok (.ifCond .eq 5, 3) := by decide +kernel
theorem dX10_isClear_56 : decode cX10_isClear 56 = .ok (.iconst 0, 1) := by decide +kernel
theorem dX10_isClear_57 : decode cX10_isClear 57 = .ok (.ireturn, 1) := by decide +kernel
theorem dX10_isClear_58 : decode cX10_isClear 58 = .ok (.iload 4, 2) := by decide +kernel
theorem dX10_isClear_60 : decode cX10_isClear 60 = .ok (.iload 6, 2) := by decide +kernel
theorem dX10_isClear_62 : decode cX10_isClear 62 = .ok (.ior, 1) := by decide +kernel
theorem dX10_isClear_63 : decode cX10_isClear 63 = .ok (.istore 4, 2) := by decide +kernel
theorem dX10_isClear_65 : decode cX10_isClear 65 = .ok (.iinc 5 1, 3) := by decide +kernel
theorem dX10_isClear_68 : decode cX10_isClear 68 = .ok (.goto (-54), 3) := by decide +kernel
theorem dX10_isClear_71 : decode cX10_isClear 71 = .ok (.iconst 1, 1) := by decide +kernel
theorem dX10_isClear_72 : decode cX10_isClear 72 = .ok (.ireturn, 1) := by decide +kernel
theorem dX10_leavingWith_0 : decode cX10_leavingWith 0 = .ok (.aload_n 0, 1) := by decide +kernel
theorem dX10_leavingWith_1 : decode cX10_leavingWith 1 = .ok (.getfield 12, 3) := by decide +kernel
theorem dX10_leavingWith_4 : decode cX10_leavingWith 4 = .ok (.getfield 76, 3) := by decide +kernel
theorem dX10_leavingWith_7 : decode cX10_leavingWith 7 = .ok (.istore 6, 2) := by decide +kernel
theorem dX10_leavingWith_9 : decode cX10_leavingWith 9 = .ok (.iconst 0, 1) := by decide +kernel
theorem dX10_leavingWith_10 : decode cX10_leavingWith 10 = .ok (.istore 7, 2) := by decide +kernel
theorem dX10_leavingWith_12 : decode cX10_leavingWith 12 = .ok (.iload 7, 2) := by decide +kernel
theorem dX10_leavingWith_14 : decode cX10_leavingWith 14 = .ok (.aload_n 0, 1) := by decide +kernel
theorem dX10_leavingWith_15 : decode cX10_leavingWith 15 = .ok (.getfield 12, 3) := by decide +kernel
theorem dX10_leavingWith_18 : decode cX10_leavingWith 18 = .ok (.getfield 82, 3) := by decide +kernel
theorem dX10_leavingWith_21 : decode cX10_leavingWith 21 = .ok (.iload_n 3, 1) := by decide +kernel
theorem dX10_leavingWith_22 : decode cX10_leavingWith 22 = .ok (.iaload, 1) := by decide +kernel
theorem dX10_leavingWith_23 : decode cX10_leavingWith 23 = .ok (.if_icmp .ge 57, 3) := by decide +kernel
theorem dX10_leavingWith_26 : decode cX10_leavingWith 26 = .ok (.iload 6, 2) := by decide +kernel
theorem dX10_leavingWith_28 : decode cX10_leavingWith 28 = .ok (.sipush 20000, 3) := by decide +kernel
theorem dX10_leavingWith_31 : decode cX10_leavingWith 31 = .ok (.if_icmp .ge 49, 3) := by decide +kernel
theorem dX10_leavingWith_34 : decode cX10_leavingWith 34 = .ok (.iload 7, 2) := by decide +kernel
theorem dX10_leavingWith_36 : decode cX10_leavingWith 36 = .ok (.iload 4, 2) := by decide +kernel
theorem dX10_leavingWith_38 : decode cX10_leavingWith 38 = .ok (.if_icmp .ne 8, 3) := by decide +kernel
theorem dX10_leavingWith_41 : decode cX10_leavingWith 41 = .ok (.iload 5, 2) := by decide +kernel
theorem dX10_leavingWith_43 : decode cX10_leavingWith 43 = .ok (.goto 13, 3) := by decide +kernel
theorem dX10_leavingWith_46 : decode cX10_leavingWith 46 = .ok (.aload_n 0, 1) := by decide +kernel
theorem dX10_leavingWith_47 : decode cX10_leavingWith 47 = .ok (.getfield 12, 3) := by decide +kernel
theorem dX10_leavingWith_50 : decode cX10_leavingWith 50 = .ok (.iload_n 3, 1) := by decide +kernel
theorem dX10_leavingWith_51 : decode cX10_leavingWith 51 = .ok (.iload 7, 2) := by decide +kernel
theorem dX10_leavingWith_53 : decode cX10_leavingWith 53 = .ok (.invokevirtual 85, 3) := by decide +kernel
theorem dX10_leavingWith_56 : decode cX10_leavingWith 56 = .ok (.istore 8, 2) := by decide +kernel
theorem dX10_leavingWith_58 : decode cX10_leavingWith 58 = .ok (.aload_n 0, 1) := by decide +kernel
theorem dX10_leavingWith_59 : decode cX10_leavingWith 59 = .ok (.iload 6, 2) := by decide +kernel
theorem dX10_leavingWith_61 : decode cX10_leavingWith 61 = .ok (.aload_n 0, 1) := by decide +kernel
theorem dX10_leavingWith_62 : decode cX10_leavingWith 62 = .ok (.iload_n 1, 1) := by decide +kernel
theorem dX10_leavingWith_63 : decode cX10_leavingWith 63 = .ok (.iload_n 2, 1) := by decide +kernel
theorem dX10_leavingWith_64 : decode cX10_leavingWith 64 = .ok (.iload 8, 2) := by decide +kernel
theorem dX10_leavingWith_66 : decode cX10_leavingWith 66 = .ok (.invokevirtual 51, 3) := by decide +kernel
theorem dX10_leavingWith_69 : decode cX10_leavingWith 69 = .ok (.invokevirtual 88, 3) := by decide +kernel
theorem dX10_leavingWith_72 : decode cX10_leavingWith 72 = .ok (.istore 6, 2) := by decide +kernel
theorem dX10_leavingWith_74 : decode cX10_leavingWith 74 = .ok (.iinc 7 1, 3) := by decide +kernel
theorem dX10_leavingWith_77 : decode cX10_leavingWith 77 = .ok (.goto (-65), 3) := by decide +kernel
theorem dX10_leavingWith_80 : decode cX10_leavingWith 80 = .ok (.iload 6, 2) := by decide +kernel
theorem dX10_leavingWith_82 : decode cX10_leavingWith 82 = .ok (.sipush 10000, 3) := by decide +kernel
theorem dX10_leavingWith_85 : decode cX10_leavingWith 85 = .ok (.irem, 1) := by decide +kernel
theorem dX10_leavingWith_86 : decode cX10_leavingWith 86 = .ok (.ireturn, 1) := by decide +kernel
theorem dX10_richestOf_0 : decode cX10_richestOf 0 = .ok (.iconst (-1), 1) := by decide +kernel
theorem dX10_richestOf_1 : decode cX10_richestOf 1 = .ok (.istore 4, 2) := by decide +kernel
theorem dX10_richestOf_3 : decode cX10_richestOf 3 = .ok (.iconst (-1), 1) := by decide +kernel
theorem dX10_richestOf_4 : decode cX10_richestOf 4 = .ok (.istore 5, 2) := by decide +kernel
theorem dX10_richestOf_6 : decode cX10_richestOf 6 = .ok (.iconst 0, 1) := by decide +kernel
theorem dX10_richestOf_7 : decode cX10_richestOf 7 = .ok (.istore 6, 2) := by decide +kernel
theorem dX10_richestOf_9 : decode cX10_richestOf 9 = .ok (.iload 6, 2) := by decide +kernel
theorem dX10_richestOf_11 : decode cX10_richestOf 11 = .ok (.aload_n 0, 1) := by decide +kernel
theorem dX10_richestOf_12 : decode cX10_richestOf 12 = .ok (.getfield 12, 3) := by decide +kernel
theorem dX10_richestOf_15 : decode cX10_richestOf 15 = .ok (.getfield 94, 3) := by decide +kernel
theorem dX10_richestOf_18 : decode cX10_richestOf 18 = .ok (.if_icmp .ge 48, 3) := by decide +kernel
theorem dX10_richestOf_21 : decode cX10_richestOf 21 = .ok (.iload_n 3, 1) := by decide +kernel
theorem dX10_richestOf_22 : decode cX10_richestOf 22 = .ok (.iload 6, 2) := by decide +kernel
theorem dX10_richestOf_24 : decode cX10_richestOf 24 = .ok (.ishr, 1) := by decide +kernel
theorem dX10_richestOf_25 : decode cX10_richestOf 25 = .ok (.iconst 1, 1) := by decide +kernel
theorem dX10_richestOf_26 : decode cX10_richestOf 26 = .ok (.iand, 1) := by decide +kernel
theorem dX10_richestOf_27 : decode cX10_richestOf 27 = .ok (.iconst 1, 1) := by decide +kernel
theorem dX10_richestOf_28 : decode cX10_richestOf 28 = .ok (.if_icmp .ne 7, 3) := by decide +kernel
theorem dX10_richestOf_31 : decode cX10_richestOf 31 = .ok (.iconst (-1), 1) := by decide +kernel
theorem dX10_richestOf_32 : decode cX10_richestOf 32 = .ok (.goto 11, 3) := by decide +kernel
theorem dX10_richestOf_35 : decode cX10_richestOf 35 = .ok (.aload_n 0, 1) := by decide +kernel
theorem dX10_richestOf_36 : decode cX10_richestOf 36 = .ok (.iload_n 1, 1) := by decide +kernel
theorem dX10_richestOf_37 : decode cX10_richestOf 37 = .ok (.iload_n 2, 1) := by decide +kernel
theorem dX10_richestOf_38 : decode cX10_richestOf 38 = .ok (.iload 6, 2) := by decide +kernel
theorem dX10_richestOf_40 : decode cX10_richestOf 40 = .ok (.invokevirtual 91, 3) := by decide +kernel
theorem dX10_richestOf_43 : decode cX10_richestOf 43 = .ok (.istore 7, 2) := by decide +kernel
theorem dX10_richestOf_45 : decode cX10_richestOf 45 = .ok (.iload 7, 2) := by decide +kernel
theorem dX10_richestOf_47 : decode cX10_richestOf 47 = .ok (.iload 5, 2) := by decide +kernel
theorem dX10_richestOf_49 : decode cX10_richestOf 49 = .ok (.if_icmp .le 11, 3) := by decide +kernel
theorem dX10_richestOf_52 : decode cX10_richestOf 52 = .ok (.iload 7, 2) := by decide +kernel
theorem dX10_richestOf_54 : decode cX10_richestOf 54 = .ok (.istore 5, 2) := by decide +kernel
theorem dX10_richestOf_56 : decode cX10_richestOf 56 = .ok (.iload 6, 2) := by decide +kernel
theorem dX10_richestOf_58 : decode cX10_richestOf 58 = .ok (.istore 4, 2) := by decide +kernel
theorem dX10_richestOf_60 : decode cX10_richestOf 60 = .ok (.iinc 6 1, 3) := by decide +kernel
theorem dX10_richestOf_63 : decode cX10_richestOf 63 = .ok (.goto (-54), 3) := by decide +kernel
theorem dX10_richestOf_66 : decode cX10_richestOf 66 = .ok (.iload 4, 2) := by decide +kernel
theorem dX10_richestOf_68 : decode cX10_richestOf 68 = .ok (.ireturn, 1) := by decide +kernel
theorem dX10_topDay_0 : decode cX10_topDay 0 = .ok (.iload_n 2, 1) := by decide +kernel
theorem dX10_topDay_1 : decode cX10_topDay 1 = .ok (.istore 6, 2) := by decide +kernel
theorem dX10_topDay_3 : decode cX10_topDay 3 = .ok (.iload 5, 2) := by decide +kernel
theorem dX10_topDay_5 : decode cX10_topDay 5 = .ok (.aload_n 0, 1) := by decide +kernel
theorem dX10_topDay_6 : decode cX10_topDay 6 = .ok (.iload_n 1, 1) := by decide +kernel
theorem dX10_topDay_7 : decode cX10_topDay 7 = .ok (.iload_n 2, 1) := by decide +kernel
theorem dX10_topDay_8 : decode cX10_topDay 8 = .ok (.iload 4, 2) := by decide +kernel
theorem dX10_topDay_10 : decode cX10_topDay 10 = .ok (.invokevirtual 91, 3) := by decide +kernel
theorem dX10_topDay_13 : decode cX10_topDay 13 = .ok (.imul, 1) := by decide +kernel
theorem dX10_topDay_14 : decode cX10_topDay 14 = .ok (.istore 7, 2) := by decide +kernel
theorem dX10_topDay_16 : decode cX10_topDay 16 = .ok (.iconst 1, 1) := by decide +kernel
theorem dX10_topDay_17 : decode cX10_topDay 17 = .ok (.istore 8, 2) := by decide +kernel
theorem dX10_topDay_19 : decode cX10_topDay 19 = .ok (.iload 8, 2) := by decide +kernel
theorem dX10_topDay_21 : decode cX10_topDay 21 = .ok (.iload_n 3, 1) := by decide +kernel
theorem dX10_topDay_22 : decode cX10_topDay 22 = .ok (.if_icmp .ge 52, 3) := by decide +kernel
theorem dX10_topDay_25 : decode cX10_topDay 25 = .ok (.iload 8, 2) := by decide +kernel
theorem dX10_topDay_27 : decode cX10_topDay 27 = .ok (.aload_n 0, 1) := by decide +kernel
theorem dX10_topDay_28 : decode cX10_topDay 28 = .ok (.iload_n 1, 1) := by decide +kernel
theorem dX10_topDay_29 : decode cX10_topDay 29 = .ok (.invokevirtual 55, 3) := by decide +kernel
theorem dX10_topDay_32 : decode cX10_topDay 32 = .ok (.if_icmp .ge 42, 3) := by decide +kernel
theorem dX10_topDay_35 : decode cX10_topDay 35 = .ok (.iload 5, 2) := by decide +kernel
theorem dX10_topDay_37 : decode cX10_topDay 37 = .ok (.aload_n 0, 1) := by decide +kernel
theorem dX10_topDay_38 : decode cX10_topDay 38 = .ok (.iload_n 1, 1) := by decide +kernel
theorem dX10_topDay_39 : decode cX10_topDay 39 = .ok (.iload_n 2, 1) := by decide +kernel
theorem dX10_topDay_40 : decode cX10_topDay 40 = .ok (.iload 8, 2) := by decide +kernel
theorem dX10_topDay_42 : decode cX10_topDay 42 = .ok (.iadd, 1) := by decide +kernel
theorem dX10_topDay_43 : decode cX10_topDay 43 = .ok (.iload 4, 2) := by decide +kernel
theorem dX10_topDay_45 : decode cX10_topDay 45 = .ok (.invokevirtual 91, 3) := by decide +kernel
theorem dX10_topDay_48 : decode cX10_topDay 48 = .ok (.imul, 1) := by decide +kernel
theorem dX10_topDay_49 : decode cX10_topDay 49 = .ok (.istore 9, 2) := by decide +kernel
theorem dX10_topDay_51 : decode cX10_topDay 51 = .ok (.iload 9, 2) := by decide +kernel
theorem dX10_topDay_53 : decode cX10_topDay 53 = .ok (.iload 7, 2) := by decide +kernel
theorem dX10_topDay_55 : decode cX10_topDay 55 = .ok (.if_icmp .le 13, 3) := by decide +kernel
theorem dX10_topDay_58 : decode cX10_topDay 58 = .ok (.iload 9, 2) := by decide +kernel
theorem dX10_topDay_60 : decode cX10_topDay 60 = .ok (.istore 7, 2) := by decide +kernel
theorem dX10_topDay_62 : decode cX10_topDay 62 = .ok (.iload_n 2, 1) := by decide +kernel
theorem dX10_topDay_63 : decode cX10_topDay 63 = .ok (.iload 8, 2) := by decide +kernel
theorem dX10_topDay_65 : decode cX10_topDay 65 = .ok (.iadd, 1) := by decide +kernel
theorem dX10_topDay_66 : decode cX10_topDay 66 = .ok (.istore 6, 2) := by decide +kernel
theorem dX10_topDay_68 : decode cX10_topDay 68 = .ok (.iinc 8 1, 3) := by decide +kernel
theorem dX10_topDay_71 : decode cX10_topDay 71 = .ok (.goto (-52), 3) := by decide +kernel
theorem dX10_topDay_74 : decode cX10_topDay 74 = .ok (.iload 6, 2) := by decide +kernel
theorem dX10_topDay_76 : decode cX10_topDay 76 = .ok (.ireturn, 1) := by decide +kernel
theorem dX11_again_0 : decode cX11_again 0 = .ok (.aload_n 0, 1) := by decide +kernel
theorem dX11_again_1 : decode cX11_again 1 = .ok (.iload_n 1, 1) := by decide +kernel
theorem dX11_again_2 : decode cX11_again 2 = .ok (.iload_n 2, 1) := by decide +kernel
theorem dX11_again_3 : decode cX11_again 3 = .ok (.iload_n 3, 1) := by decide +kernel
theorem dX11_again_4 : decode cX11_again 4 = .ok (.invokevirtual 191, 3) := by decide +kernel
theorem dX11_again_7 : decode cX11_again 7 = .ok (.ifCond .ne 6, 3) := by decide +kernel
theorem dX11_again_10 : decode cX11_again 10 = .ok (.bipush (-2), 2) := by decide +kernel
theorem dX11_again_12 : decode cX11_again 12 = .ok (.ireturn, 1) := by decide +kernel
theorem dX11_again_13 : decode cX11_again 13 = .ok (.aload_n 0, 1) := by decide +kernel
theorem dX11_again_14 : decode cX11_again 14 = .ok (.getfield 28, 3) := by decide +kernel
theorem dX11_again_17 : decode cX11_again 17 = .ok (.iload_n 1, 1) := by decide +kernel
theorem dX11_again_18 : decode cX11_again 18 = .ok (.iload_n 2, 1) := by decide +kernel
theorem dX11_again_19 : decode cX11_again 19 = .ok (.iconst 1, 1) := by decide +kernel
theorem dX11_again_20 : decode cX11_again 20 = .ok (.iadd, 1) := by decide +kernel
theorem dX11_again_21 : decode cX11_again 21 = .ok (.iload_n 3, 1) := by decide +kernel
theorem dX11_again_22 : decode cX11_again 22 = .ok (.aload_n 0, 1) := by decide +kernel
theorem dX11_again_23 : decode cX11_again 23 = .ok (.getfield 28, 3) := by decide +kernel
theorem dX11_again_26 : decode cX11_again 26 = .ok (.iload_n 1, 1) := by decide +kernel
theorem dX11_again_27 : decode cX11_again 27 = .ok (.iload_n 2, 1) := by decide +kernel
theorem dX11_again_28 : decode cX11_again 28 = .ok (.iload_n 3, 1) := by decide +kernel
theorem dX11_again_29 : decode cX11_again 29 = .ok (.invokevirtual 195, 3) := by decide +kernel
theorem dX11_again_32 : decode cX11_again 32 = .ok (.invokevirtual 206, 3) := by decide +kernel
theorem dX11_again_35 : decode cX11_again 35 = .ok (.ireturn, 1) := by decide +kernel
theorem dX11_agree_0 : decode cX11_agree 0 = .ok (.aload_n 0, 1) := by decide +kernel
theorem dX11_agree_1 : decode cX11_agree 1 = .ok (.iload_n 1, 1) := by decide +kernel
theorem dX11_agree_2 : decode cX11_agree 2 = .ok (.iload_n 2, 1) := by decide +kernel
theorem dX11_agree_3 : decode cX11_agree 3 = .ok (.invokevirtual 216, 3) := by decide +kernel
theorem dX11_agree_6 : decode cX11_agree 6 = .ok (.ifCond .eq 11, 3) := by decide +kernel
theorem dX11_agree_9 : decode cX11_agree 9 = .ok (.aload_n 0, 1) := by decide +kernel
theorem dX11_agree_10 : decode cX11_agree 10 = .ok (.iload_n 3, 1) := by decide +kernel
theorem dX11_agree_11 : decode cX11_agree 11 = .ok (.invokevirtual 135, 3) := by decide +kernel
theorem dX11_agree_14 : decode cX11_agree 14 = .ok (.ifCond .ne 6, 3) := by decide +kernel
theorem dX11_agree_17 : decode cX11_agree 17 = .ok (.bipush (-2), 2) := by decide +kernel
theorem dX11_agree_19 : decode cX11_agree 19 = .ok (.ireturn, 1) := by decide +kernel
theorem dX11_agree_20 : decode cX11_agree 20 = .ok (.aload_n 0, 1) := by decide +kernel
theorem dX11_agree_21 : decode cX11_agree 21 = .ok (.getfield 28, 3) := by decide +kernel
theorem dX11_agree_24 : decode cX11_agree 24 = .ok (.iload_n 1, 1) := by decide +kernel
theorem dX11_agree_25 : decode cX11_agree 25 = .ok (.invokevirtual 170, 3) := by decide +kernel
theorem dX11_agree_28 : decode cX11_agree 28 = .ok (.istore 4, 2) := by decide +kernel
theorem dX11_agree_30 : decode cX11_agree 30 = .ok (.iconst 0, 1) := by decide +kernel
theorem dX11_agree_31 : decode cX11_agree 31 = .ok (.istore 5, 2) := by decide +kernel
theorem dX11_agree_33 : decode cX11_agree 33 = .ok (.iload 5, 2) := by decide +kernel
theorem dX11_agree_35 : decode cX11_agree 35 = .ok (.iload 4, 2) := by decide +kernel
theorem dX11_agree_37 : decode cX11_agree 37 = .ok (.if_icmp .ge 37, 3) := by decide +kernel
theorem dX11_agree_40 : decode cX11_agree 40 = .ok (.aload_n 0, 1) := by decide +kernel
theorem dX11_agree_41 : decode cX11_agree 41 = .ok (.getfield 28, 3) := by decide +kernel
theorem dX11_agree_44 : decode cX11_agree 44 = .ok (.iload_n 1, 1) := by decide +kernel
theorem dX11_agree_45 : decode cX11_agree 45 = .ok (.iload 5, 2) := by decide +kernel
theorem dX11_agree_47 : decode cX11_agree 47 = .ok (.iload_n 2, 1) := by decide +kernel
theorem dX11_agree_48 : decode cX11_agree 48 = .ok (.invokevirtual 195, 3) := by decide +kernel
theorem dX11_agree_51 : decode cX11_agree 51 = .ok (.aload_n 0, 1) := by decide +kernel
theorem dX11_agree_52 : decode cX11_agree 52 = .ok (.getfield 28, 3) := by decide +kernel
theorem dX11_agree_55 : decode cX11_agree 55 = .ok (.iload_n 1, 1) := by decide +kernel
theorem dX11_agree_56 : decode cX11_agree 56 = .ok (.iload 5, 2) := by decide +kernel
theorem dX11_agree_58 : decode cX11_agree 58 = .ok (.iload_n 3, 1) := by decide +kernel
theorem dX11_agree_59 : decode cX11_agree 59 = .ok (.invokevirtual 195, 3) := by decide +kernel
theorem dX11_agree_62 : decode cX11_agree 62 = .ok (.if_icmp .ne 6, 3) := by decide +kernel
theorem dX11_agree_65 : decode cX11_agree 65 = .ok (.iload 5, 2) := by decide +kernel
theorem dX11_agree_67 : decode cX11_agree 67 = .ok (.ireturn, 1) := by decide +kernel
theorem dX11_agree_68 : decode cX11_agree 68 = .ok (.iinc 5 1, 3) := by decide +kernel
theorem dX11_agree_71 : decode cX11_agree 71 = .ok (.goto (-38), 3) := by decide +kernel
theorem dX11_agree_74 : decode cX11_agree 74 = .ok (.iconst (-1), 1) := by decide +kernel
theorem dX11_agree_75 : decode cX11_agree 75 = .ok (.ireturn, 1) := by decide +kernel
theorem dX11_all_0 : decode cX11_all 0 = .ok (.aload_n 0, 1) := by decide +kernel
theorem dX11_all_1 : decode cX11_all 1 = .ok (.iload_n 1, 1) := by decide +kernel
theorem dX11_all_2 : decode cX11_all 2 = .ok (.invokevirtual 145, 3) := by decide +kernel
theorem dX11_all_5 : decode cX11_all 5 = .ok (.ifCond .eq 10, 3) := by decide +kernel
theorem dX11_all_8 : decode cX11_all 8 = .ok (.iload_n 2, 1) := by decide +kernel
theorem dX11_all_9 : decode cX11_all 9 = .ok (.invokestatic 158, 3) := by decide +kernel
theorem dX11_all_12 : decode cX11_all 12 = .ok (.ifCond .ne 6, 3) := by decide +kernel
theorem dX11_all_15 : decode cX11_all 15 = .ok (.bipush (-2), 2) := by decide +kernel
theorem dX11_all_17 : decode cX11_all 17 = .ok (.ireturn, 1) := by decide +kernel
theorem dX11_all_18 : decode cX11_all 18 = .ok (.aload_n 0, 1) := by decide +kernel
theorem dX11_all_19 : decode cX11_all 19 = .ok (.getfield 28, 3) := by decide +kernel
theorem dX11_all_22 : decode cX11_all 22 = .ok (.getfield 109, 3) := by decide +kernel
theorem dX11_all_25 : decode cX11_all 25 = .ok (.getfield 248, 3) := by decide +kernel
theorem dX11_all_28 : decode cX11_all 28 = .ok (.istore_n 3, 1) := by decide +kernel
theorem dX11_all_29 : decode cX11_all 29 = .ok (.iconst 0, 1) := by decide +kernel
theorem dX11_all_30 : decode cX11_all 30 = .ok (.istore 4, 2) := by decide +kernel
theorem dX11_all_32 : decode cX11_all 32 = .ok (.iload 4, 2) := by decide +kernel
theorem dX11_all_34 : decode cX11_all 34 = .ok (.aload_n 0, 1) := by decide +kernel
theorem dX11_all_35 : decode cX11_all 35 = .ok (.getfield 28, 3) := by decide +kernel
theorem dX11_all_38 : decode cX11_all 38 = .ok (.getfield 109, 3) := by decide +kernel
theorem dX11_all_41 : decode cX11_all 41 = .ok (.getfield 251, 3) := by decide +kernel
theorem dX11_all_44 : decode cX11_all 44 = .ok (.if_icmp .ge 22, 3) := by decide +kernel
theorem dX11_all_47 : decode cX11_all 47 = .ok (.aload_n 0, 1) := by decide +kernel
theorem dX11_all_48 : decode cX11_all 48 = .ok (.getfield 28, 3) := by decide +kernel
theorem dX11_all_51 : decode cX11_all 51 = .ok (.iload_n 3, 1) := by decide +kernel
theorem dX11_all_52 : decode cX11_all 52 = .ok (.iload_n 1, 1) := by decide +kernel
theorem dX11_all_53 : decode cX11_all 53 = .ok (.iload_n 2, 1) := by decide +kernel
theorem dX11_all_54 : decode cX11_all 54 = .ok (.iload 4, 2) := by decide +kernel
theorem dX11_all_56 : decode cX11_all 56 = .ok (.invokevirtual 254, 3) := by decide +kernel
theorem dX11_all_59 : decode cX11_all 59 = .ok (.istore_n 3, 1) := by decide +kernel
theorem dX11_all_60 : decode cX11_all 60 = .ok (.iinc 4 1, 3) := by decide +kernel
theorem dX11_all_63 : decode cX11_all 63 = .ok (.goto (-31), 3) := by decide +kernel
theorem dX11_all_66 : decode cX11_all 66 = .ok (.iload_n 3, 1) := by decide +kernel
theorem dX11_all_67 : decode cX11_all 67 = .ok (.ireturn, 1) := by decide +kernel
theorem dX11_average_0 : decode cX11_average 0 = .ok (.aload_n 0, 1) := by decide +kernel
theorem dX11_average_1 : decode cX11_average 1 = .ok (.iload_n 1, 1) := by decide +kernel
theorem dX11_average_2 : decode cX11_average 2 = .ok (.iload_n 2, 1) := by decide +kernel
theorem dX11_average_3 : decode cX11_average 3 = .ok (.invokevirtual 216, 3) := by decide +kernel
theorem dX11_average_6 : decode cX11_average 6 = .ok (.ifCond .eq 10, 3) := by decide +kernel
theorem dX11_average_9 : decode cX11_average 9 = .ok (.iload_n 3, 1) := by decide +kernel
theorem dX11_average_10 : decode cX11_average 10 = .ok (.invokestatic 125, 3) := by decide +kernel
theorem dX11_average_13 : decode cX11_average 13 = .ok (.ifCond .ne 6, 3) := by decide +kernel
theorem dX11_average_16 : decode cX11_average 16 = .ok (.bipush (-2), 2) := by decide +kernel
theorem dX11_average_18 : decode cX11_average 18 = .ok (.ireturn, 1) := by decide +kernel
theorem dX11_average_19 : decode cX11_average 19 = .ok (.lconst 0, 1) := by decide +kernel
theorem dX11_average_20 : decode cX11_average 20 = .ok (.lstore 4, 2) := by decide +kernel
theorem dX11_average_22 : decode cX11_average 22 = .ok (.aload_n 0, 1) := by decide +kernel
theorem dX11_average_23 : decode cX11_average 23 = .ok (.getfield 28, 3) := by decide +kernel
theorem dX11_average_26 : decode cX11_average 26 = .ok (.iload_n 1, 1) := by decide +kernel
theorem dX11_average_27 : decode cX11_average 27 = .ok (.invokevirtual 170, 3) := by decide +kernel
theorem dX11_average_30 : decode cX11_average 30 = .ok (.istore 6, 2) := by decide +kernel
theorem dX11_average_32 : decode cX11_average 32 = .ok (.iconst 0, 1) := by decide +kernel
theorem dX11_average_33 : decode cX11_average 33 = .ok (.istore 7, 2) := by decide +kernel
theorem dX11_average_35 : decode cX11_average 35 = .ok (.iload 7, 2) := by decide +kernel
theorem dX11_average_37 : decode cX11_average 37 = .ok (.iload 6, 2) := by decide +kernel
theorem dX11_average_39 : decode cX11_average 39 = .ok (.if_icmp .ge 26, 3) := by decide +kernel
theorem dX11_average_42 : decode cX11_average 42 = .ok (.lload 4, 2) := by decide +kernel
theorem dX11_average_44 : decode cX11_average 44 = .ok (.aload_n 0, 1) := by decide +kernel
theorem dX11_average_45 : decode cX11_average 45 = .ok (.getfield 28, 3) := by decide +kernel
theorem dX11_average_48 : decode cX11_average 48 = .ok (.iload_n 1, 1) := by decide +kernel
theorem dX11_average_49 : decode cX11_average 49 = .ok (.iload 7, 2) := by decide +kernel
theorem dX11_average_51 : decode cX11_average 51 = .ok (.iload_n 2, 1) := by decide +kernel
theorem dX11_average_52 : decode cX11_average 52 = .ok (.invokevirtual 195, 3) := by decide +kernel
theorem dX11_average_55 : decode cX11_average 55 = .ok (.i2l, 1) := by decide +kernel
theorem dX11_average_56 : decode cX11_average 56 = .ok (.ladd, 1) := by decide +kernel
theorem dX11_average_57 : decode cX11_average 57 = .ok (.lstore 4, 2) := by decide +kernel
theorem dX11_average_59 : decode cX11_average 59 = .ok (.iinc 7 1, 3) := by decide +kernel
theorem dX11_average_62 : decode cX11_average 62 = .ok (.goto (-27), 3) := by decide +kernel
theorem dX11_average_65 : decode cX11_average 65 = .ok (.lload 4, 2) := by decide +kernel
theorem dX11_average_67 : decode cX11_average 67 = .ok (.iload 6, 2) := by decide +kernel
theorem dX11_average_69 : decode cX11_average 69 = .ok (.i2l, 1) := by decide +kernel
theorem dX11_average_70 : decode cX11_average 70 = .ok (.iload_n 3, 1) := by decide +kernel
theorem dX11_average_71 : decode cX11_average 71 = .ok (.invokestatic 238, 3) := by decide +kernel
theorem dX11_average_74 : decode cX11_average 74 = .ok (.l2i, 1) := by decide +kernel
theorem dX11_average_75 : decode cX11_average 75 = .ok (.ireturn, 1) := by decide +kernel
theorem dX11_best_0 : decode cX11_best 0 = .ok (.aload_n 0, 1) := by decide +kernel
theorem dX11_best_1 : decode cX11_best 1 = .ok (.iload_n 1, 1) := by decide +kernel
theorem dX11_best_2 : decode cX11_best 2 = .ok (.iload_n 2, 1) := by decide +kernel
theorem dX11_best_3 : decode cX11_best 3 = .ok (.iload 4, 2) := by decide +kernel
theorem dX11_best_5 : decode cX11_best 5 = .ok (.invokevirtual 191, 3) := by decide +kernel
theorem dX11_best_8 : decode cX11_best 8 = .ok (.ifCond .eq 15, 3) := by decide +kernel
theorem dX11_best_11 : decode cX11_best 11 = .ok (.iload_n 3, 1) := by decide +kernel
theorem dX11_best_12 : decode cX11_best 12 = .ok (.iconst 1, 1) := by decide +kernel
theorem dX11_best_13 : decode cX11_best 13 = .ok (.if_icmp .lt 10, 3) := by decide +kernel
theorem dX11_best_16 : decode cX11_best 16 = .ok (.iload_n 3, 1) := by decide +kernel
theorem dX11_best_17 : decode cX11_best 17 = .ok (.sipush 1000, 3) := by decide +kernel
theorem dX11_best_20 : decode cX11_best 20 = .ok (.if_icmp .le 6, 3) := by decide +kernel
theorem dX11_best_23 : decode cX11_best 23 = .ok (.bipush (-2), 2) := by decide +kernel
theorem dX11_best_25 : decode cX11_best 25 = .ok (.ireturn, 1) := by decide +kernel
theorem dX11_best_26 : decode cX11_best 26 = .ok (.aload_n 0, 1) := by decide +kernel
theorem dX11_best_27 : decode cX11_best 27 = .ok (.getfield 28, 3) := by decide +kernel
theorem dX11_best_30 : decode cX11_best 30 = .ok (.iload_n 1, 1) := by decide +kernel
theorem dX11_best_31 : decode cX11_best 31 = .ok (.iload_n 2, 1) := by decide +kernel
theorem dX11_best_32 : decode cX11_best 32 = .ok (.iload_n 3, 1) := by decide +kernel
theorem dX11_best_33 : decode cX11_best 33 = .ok (.iload 4, 2) := by decide +kernel
theorem dX11_best_35 : decode cX11_best 35 = .ok (.iconst 1, 1) := by decide +kernel
theorem dX11_best_36 : decode cX11_best 36 = .ok (.invokevirtual 212, 3) := by decide +kernel
theorem dX11_best_39 : decode cX11_best 39 = .ok (.ireturn, 1) := by decide +kernel
theorem dX11_better_0 : decode cX11_better 0 = .ok (.aload_n 0, 1) := by decide +kernel
theorem dX11_better_1 : decode cX11_better 1 = .ok (.iload_n 1, 1) := by decide +kernel
theorem dX11_better_2 : decode cX11_better 2 = .ok (.iload_n 2, 1) := by decide +kernel
theorem dX11_better_3 : decode cX11_better 3 = .ok (.iload_n 3, 1) := by decide +kernel
theorem dX11_better_4 : decode cX11_better 4 = .ok (.invokevirtual 191, 3) := by decide +kernel
theorem dX11_better_7 : decode cX11_better 7 = .ok (.ifCond .ne 6, 3) := by decide +kernel
theorem dX11_better_10 : decode cX11_better 10 = .ok (.bipush (-2), 2) := by decide +kernel
theorem dX11_better_12 : decode cX11_better 12 = .ok (.ireturn, 1) := by decide +kernel
theorem dX11_better_13 : decode cX11_better 13 = .ok (.iconst (-1), 1) := by decide +kernel
theorem dX11_better_14 : decode cX11_better 14 = .ok (.istore 4, 2) := by decide +kernel
theorem dX11_better_16 : decode cX11_better 16 = .ok (.aload_n 0, 1) := by decide +kernel
theorem dX11_better_17 : decode cX11_better 17 = .ok (.getfield 28, 3) := by decide +kernel
theorem dX11_better_20 : decode cX11_better 20 = .ok (.iload_n 1, 1) := by decide +kernel
theorem dX11_better_21 : decode cX11_better 21 = .ok (.iload_n 2, 1) := by decide +kernel
theorem dX11_better_22 : decode cX11_better 22 = .ok (.iload_n 3, 1) := by decide +kernel
theorem dX11_better_23 : decode cX11_better 23 = .ok (.invokevirtual 195, 3) := by decide +kernel
theorem dX11_better_26 : decode cX11_better 26 = .ok (.istore 5, 2) := by decide +kernel
theorem dX11_better_28 : decode cX11_better 28 = .ok (.aload_n 0, 1) := by decide +kernel
theorem dX11_better_29 : decode cX11_better 29 = .ok (.getfield 28, 3) := by decide +kernel
theorem dX11_better_32 : decode cX11_better 32 = .ok (.getfield 109, 3) := by decide +kernel
theorem dX11_better_35 : decode cX11_better 35 = .ok (.invokevirtual 183, 3) := by decide +kernel
theorem dX11_better_38 : decode cX11_better 38 = .ok (.istore 6, 2) := by decide +kernel
theorem dX11_better_40 : decode cX11_better 40 = .ok (.iconst 0, 1) := by decide +kernel
theorem dX11_better_41 : decode cX11_better 41 = .ok (.istore 7, 2) := by decide +kernel
theorem dX11_better_43 : decode cX11_better 43 = .ok (.iload 7, 2) := by decide +kernel
theorem dX11_better_45 : decode cX11_better 45 = .ok (.aload_n 0, 1) := by decide +kernel
theorem dX11_better_46 : decode cX11_better 46 = .ok (.getfield 28, 3) := by decide +kernel
theorem dX11_better_49 : decode cX11_better 49 = .ok (.getfield 109, 3) := by decide +kernel
theorem dX11_better_52 : decode cX11_better 52 = .ok (.getfield 138, 3) := by decide +kernel
theorem dX11_better_55 : decode cX11_better 55 = .ok (.iload_n 3, 1) := by decide +kernel
theorem dX11_better_56 : decode cX11_better 56 = .ok (.iaload, 1) := by decide +kernel
theorem dX11_better_57 : decode cX11_better 57 = .ok (.if_icmp .ge 62, 3) := by decide +kernel
theorem dX11_better_60 : decode cX11_better 60 = .ok (.iconst 0, 1) := by decide +kernel
theorem dX11_better_61 : decode cX11_better 61 = .ok (.istore 8, 2) := by decide +kernel
theorem dX11_better_63 : decode cX11_better 63 = .ok (.iload 8, 2) := by decide +kernel
theorem dX11_better_65 : decode cX11_better 65 = .ok (.iload 6, 2) := by decide +kernel
theorem dX11_better_67 : decode cX11_better 67 = .ok (.if_icmp .ge 46, 3) := by decide +kernel
theorem dX11_better_70 : decode cX11_better 70 = .ok (.aload_n 0, 1) := by decide +kernel
theorem dX11_better_71 : decode cX11_better 71 = .ok (.getfield 28, 3) := by decide +kernel
theorem dX11_better_74 : decode cX11_better 74 = .ok (.iload_n 1, 1) := by decide +kernel
theorem dX11_better_75 : decode cX11_better 75 = .ok (.iload_n 2, 1) := by decide +kernel
theorem dX11_better_76 : decode cX11_better 76 = .ok (.iload_n 3, 1) := by decide +kernel
theorem dX11_better_77 : decode cX11_better 77 = .ok (.iload 7, 2) := by decide +kernel
theorem dX11_better_79 : decode cX11_better 79 = .ok (.iload 8, 2) := by decide +kernel
theorem dX11_better_81 : decode cX11_better 81 = .ok (.invokevirtual 242, 3) := by decide +kernel
theorem dX11_better_84 : decode cX11_better 84 = .ok (.istore 9, 2) := by decide +kernel
theorem dX11_better_86 : decode cX11_better 86 = .ok (.iload 9, 2) := by decide +kernel
theorem dX11_better_88 : decode cX11_better 88 = .ok (.iload 5, 2) := by decide +kernel
theorem dX11_better_90 : decode cX11_better 90 = .ok (.if_icmp .le 17, 3) := by decide +kernel
theorem dX11_better_93 : decode cX11_better 93 = .ok (.iload 9, 2) := by decide +kernel
theorem dX11_better_95 : decode cX11_better 95 = .ok (.istore 5, 2) := by decide +kernel
theorem dX11_better_97 : decode cX11_better 97 = .ok (.bipush 10, 2) := by decide +kernel
theorem dX11_better_99 : decode cX11_better 99 = .ok (.iload 7, 2) := by decide +kernel
theorem dX11_better_101 : decode cX11_better 101 = .ok (.imul, 1) := by decide +kernel
theorem dX11_better_102 : decode cX11_better 102 = .ok (.iload 8, 2) := by decide +kernel
theorem dX11_better_104 : decode cX11_better 104 = .ok (.iadd, 1) := by decide +kernel
theorem dX11_better_105 : decode cX11_better 105 = .ok (.istore 4, 2) := by decide +kernel
theorem dX11_better_107 : decode cX11_better 107 = .ok (.iinc 8 1, 3) := by decide +kernel
theorem dX11_better_110 : decode cX11_better 110 = .ok (.goto (-47), 3) := by decide +kernel
theorem dX11_better_113 : decode cX11_better 113 = .ok (.iinc 7 1, 3) := by decide +kernel
theorem dX11_better_116 : decode cX11_better 116 = .ok (.goto (-73), 3) := by decide +kernel
theorem dX11_better_119 : decode cX11_better 119 = .ok (.iload 4, 2) := by decide +kernel
theorem dX11_better_121 : decode cX11_better 121 = .ok (.ireturn, 1) := by decide +kernel
theorem dX11_clear_0 : decode cX11_clear 0 = .ok (.aload_n 0, 1) := by decide +kernel
theorem dX11_clear_1 : decode cX11_clear 1 = .ok (.iload_n 1, 1) := by decide +kernel
theorem dX11_clear_2 : decode cX11_clear 2 = .ok (.iload_n 2, 1) := by decide +kernel
theorem dX11_clear_3 : decode cX11_clear 3 = .ok (.invokevirtual 216, 3) := by decide +kernel
theorem dX11_clear_6 : decode cX11_clear 6 = .ok (.ifCond .ne 6, 3) := by decide +kernel
theorem dX11_clear_9 : decode cX11_clear 9 = .ok (.bipush (-2), 2) := by decide +kernel
theorem dX11_clear_11 : decode cX11_clear 11 = .ok (.ireturn, 1) := by decide +kernel
theorem dX11_clear_12 : decode cX11_clear 12 = .ok (.aload_n 0, 1) := by decide +kernel
theorem dX11_clear_13 : decode cX11_clear 13 = .ok (.getfield 28, 3) := by decide +kernel
theorem dX11_clear_16 : decode cX11_clear 16 = .ok (.iload_n 1, 1) := by decide +kernel
theorem dX11_clear_17 : decode cX11_clear 17 = .ok (.invokevirtual 170, 3) := by decide +kernel
theorem dX11_clear_20 : decode cX11_clear 20 = .ok (.istore_n 3, 1) := by decide +kernel
theorem dX11_clear_21 : decode cX11_clear 21 = .ok (.iconst 0, 1) := by decide +kernel
theorem dX11_clear_22 : decode cX11_clear 22 = .ok (.istore 4, 2) := by decide +kernel
theorem dX11_clear_24 : decode cX11_clear 24 = .ok (.iload 4, 2) := by decide +kernel
theorem dX11_clear_26 : decode cX11_clear 26 = .ok (.iload_n 3, 1) := by decide +kernel
theorem dX11_clear_27 : decode cX11_clear 27 = .ok (.if_icmp .ge 26, 3) := by decide +kernel
theorem dX11_clear_30 : decode cX11_clear 30 = .ok (.aload_n 0, 1) := by decide +kernel
theorem dX11_clear_31 : decode cX11_clear 31 = .ok (.getfield 28, 3) := by decide +kernel
theorem dX11_clear_34 : decode cX11_clear 34 = .ok (.iload_n 1, 1) := by decide +kernel
theorem dX11_clear_35 : decode cX11_clear 35 = .ok (.iload 4, 2) := by decide +kernel
theorem dX11_clear_37 : decode cX11_clear 37 = .ok (.iload_n 2, 1) := by decide +kernel
theorem dX11_clear_38 : decode cX11_clear 38 = .ok (.invokevirtual 227, 3) := by decide +kernel
theorem dX11_clear_41 : decode cX11_clear 41 = .ok (.ifCond .eq 6, 3) := by decide +kernel
theorem dX11_clear_44 : decode cX11_clear 44 = .ok (.iload 4, 2) := by decide +kernel
theorem dX11_clear_46 : decode cX11_clear 46 = .ok (.ireturn, 1) := by decide +kernel
theorem dX11_clear_47 : decode cX11_clear 47 = .ok (.iinc 4 1, 3) := by decide +kernel
theorem dX11_clear_50 : decode cX11_clear 50 = .ok (.goto (-26), 3) := by decide +kernel
theorem dX11_clear_53 : decode cX11_clear 53 = .ok (.iconst (-1), 1) := by decide +kernel
theorem dX11_clear_54 : decode cX11_clear 54 = .ok (.ireturn, 1) := by decide +kernel
theorem dX11_days_0 : decode cX11_days 0 = .ok (.aload_n 0, 1) := by decide +kernel
theorem dX11_days_1 : decode cX11_days 1 = .ok (.iload_n 1, 1) := by decide +kernel
theorem dX11_days_2 : decode cX11_days 2 = .ok (.iload_n 2, 1) := by decide +kernel
theorem dX11_days_3 : decode cX11_days 3 = .ok (.invokevirtual 216, 3) := by decide +kernel
theorem dX11_days_6 : decode cX11_days 6 = .ok (.ifCond .eq 10, 3) := by decide +kernel
theorem dX11_days_9 : decode cX11_days 9 = .ok (.iload_n 3, 1) := by decide +kernel
theorem dX11_days_10 : decode cX11_days 10 = .ok (.invokestatic 209, 3) := by decide +kernel
theorem dX11_days_13 : decode cX11_days 13 = .ok (.ifCond .ne 6, 3) := by decide +kernel
theorem dX11_days_16 : decode cX11_days 16 = .ok (.bipush (-2), 2) := by decide +kernel
theorem dX11_days_18 : decode cX11_days 18 = .ok (.ireturn, 1) := by decide +kernel
theorem dX11_days_19 : decode cX11_days 19 = .ok (.iconst 0, 1) := by decide +kernel
theorem dX11_days_20 : decode cX11_days 20 = .ok (.istore 4, 2) := by decide +kernel
theorem dX11_days_22 : decode cX11_days 22 = .ok (.aload_n 0, 1) := by decide +kernel
theorem dX11_days_23 : decode cX11_days 23 = .ok (.getfield 28, 3) := by decide +kernel
theorem dX11_days_26 : decode cX11_days 26 = .ok (.iload_n 1, 1) := by decide +kernel
theorem dX11_days_27 : decode cX11_days 27 = .ok (.invokevirtual 170, 3) := by decide +kernel
theorem dX11_days_30 : decode cX11_days 30 = .ok (.istore 5, 2) := by decide +kernel
theorem dX11_days_32 : decode cX11_days 32 = .ok (.iconst 0, 1) := by decide +kernel
theorem dX11_days_33 : decode cX11_days 33 = .ok (.istore 6, 2) := by decide +kernel
theorem dX11_days_35 : decode cX11_days 35 = .ok (.iload 6, 2) := by decide +kernel
theorem dX11_days_37 : decode cX11_days 37 = .ok (.iload 5, 2) := by decide +kernel
theorem dX11_days_39 : decode cX11_days 39 = .ok (.if_icmp .ge 27, 3) := by decide +kernel
theorem dX11_days_42 : decode cX11_days 42 = .ok (.aload_n 0, 1) := by decide +kernel
theorem dX11_days_43 : decode cX11_days 43 = .ok (.getfield 28, 3) := by decide +kernel
theorem dX11_days_46 : decode cX11_days 46 = .ok (.iload_n 1, 1) := by decide +kernel
theorem dX11_days_47 : decode cX11_days 47 = .ok (.iload 6, 2) := by decide +kernel
theorem dX11_days_49 : decode cX11_days 49 = .ok (.iload_n 2, 1) := by decide +kernel
theorem dX11_days_50 : decode cX11_days 50 = .ok (.invokevirtual 195, 3) := by decide +kernel
theorem dX11_days_53 : decode cX11_days 53 = .ok (.iload_n 3, 1) := by decide +kernel
theorem dX11_days_54 : decode cX11_days 54 = .ok (.if_icmp .lt 6, 3) := by decide +kernel
theorem dX11_days_57 : decode cX11_days 57 = .ok (.iinc 4 1, 3) := by decide +kernel
theorem dX11_days_60 : decode cX11_days 60 = .ok (.iinc 6 1, 3) := by decide +kernel
theorem dX11_days_63 : decode cX11_days 63 = .ok (.goto (-28), 3) := by decide +kernel
theorem dX11_days_66 : decode cX11_days 66 = .ok (.iload 4, 2) := by decide +kernel
theorem dX11_days_68 : decode cX11_days 68 = .ok (.ireturn, 1) := by decide +kernel
theorem dX11_first_0 : decode cX11_first 0 = .ok (.aload_n 0, 1) := by decide +kernel
theorem dX11_first_1 : decode cX11_first 1 = .ok (.iload_n 1, 1) := by decide +kernel
theorem dX11_first_2 : decode cX11_first 2 = .ok (.iload_n 2, 1) := by decide +kernel
theorem dX11_first_3 : decode cX11_first 3 = .ok (.iload_n 3, 1) := by decide +kernel
theorem dX11_first_4 : decode cX11_first 4 = .ok (.invokevirtual 191, 3) := by decide +kernel
theorem dX11_first_7 : decode cX11_first 7 = .ok (.ifCond .eq 11, 3) := by decide +kernel
theorem dX11_first_10 : decode cX11_first 10 = .ok (.iload 4, 2) := by decide +kernel
theorem dX11_first_12 : decode cX11_first 12 = .ok (.invokestatic 209, 3) := by decide +kernel
theorem dX11_first_15 : decode cX11_first 15 = .ok (.ifCond .ne 6, 3) := by decide +kernel
theorem dX11_first_18 : decode cX11_first 18 = .ok (.bipush (-2), 2) := by decide +kernel
theorem dX11_first_20 : decode cX11_first 20 = .ok (.ireturn, 1) := by decide +kernel
theorem dX11_first_21 : decode cX11_first 21 = .ok (.aload_n 0, 1) := by decide +kernel
theorem dX11_first_22 : decode cX11_first 22 = .ok (.getfield 28, 3) := by decide +kernel
theorem dX11_first_25 : decode cX11_first 25 = .ok (.iload_n 1, 1) := by decide +kernel
theorem dX11_first_26 : decode cX11_first 26 = .ok (.iload_n 2, 1) := by decide +kernel
theorem dX11_first_27 : decode cX11_first 27 = .ok (.iload_n 3, 1) := by decide +kernel
theorem dX11_first_28 : decode cX11_first 28 = .ok (.iload 4, 2) := by decide +kernel
theorem dX11_first_30 : decode cX11_first 30 = .ok (.invokevirtual 206, 3) := by decide +kernel
theorem dX11_first_33 : decode cX11_first 33 = .ok (.ireturn, 1) := by decide +kernel
theorem dX11_inLowestTerms_0 : decode cX11_inLowestTerms 0 = .ok (.lload_n 0, 1) := by decide +kernel
theorem dX11_inLowestTerms_1 : decode cX11_inLowestTerms 1 = .ok (.lload_n 2, 1) := by decide +kernel
theorem dX11_inLowestTerms_2 : decode cX11_inLowestTerms 2 = .ok (.invokestatic 424, 3) := by decide +kernel
theorem dX11_inLowestTerms_5 : decode cX11_inLowestTerms 5 = .ok (.lstore 5, 2) := by decide +kernel
theorem dX11_inLowestTerms_7 : decode cX11_inLowestTerms 7 = .ok (.lload 5, 2) := by decide +kernel
theorem dX11_inLowestTerms_9 : decode cX11_inLowestTerms 9 = .ok (.lconst 0, 1) := by decide +kernel
theorem dX11_inLowestTerms_10 : decode cX11_inLowestTerms 10 = .ok (.lcmp, 1) := by decide +kernel
theorem dX11_inLowestTerms_11 : decode cX11_inLowestTerms 11 = .ok (.ifCond .ne 5, 3) := by decide +kernel
theorem dX11_inLowestTerms_14 : decode cX11_inLowestTerms 14 = .ok (.lconst 0, 1) := by decide +kernel
theorem dX11_inLowestTerms_15 : decode cX11_inLowestTerms 15 = .ok (.lreturn, 1) := by decide +kernel
theorem dX11_inLowestTerms_16 : decode cX11_inLowestTerms 16 = .ok (.iload 4, 2) := by decide +kernel
theorem dX11_inLowestTerms_18 : decode cX11_inLowestTerms 18 = .ok (.ifCond .ne 7, 3) := by decide +kernel
theorem dX11_inLowestTerms_21 : decode cX11_inLowestTerms 21 = .ok (.lload_n 0, 1) := by decide +kernel
theorem dX11_inLowestTerms_22 : decode cX11_inLowestTerms 22 = .ok (.goto 4, 3) := by decide +kernel
theorem dX11_inLowestTerms_25 : decode cX11_inLowestTerms 25 = .ok (.lload_n 2, 1) := by decide +kernel
theorem dX11_inLowestTerms_26 : decode cX11_inLowestTerms 26 = .ok (.lload 5, 2) := by decide +kernel
theorem dX11_inLowestTerms_28 : decode cX11_inLowestTerms 28 = .ok (.ldiv, 1) := by decide +kernel
theorem dX11_inLowestTerms_29 : decode cX11_inLowestTerms 29 = .ok (.lreturn, 1) := by decide +kernel
theorem dX11_isLandAndText_0 : decode cX11_isLandAndText 0 = .ok (.aload_n 0, 1) := by decide +kernel
theorem dX11_isLandAndText_1 : decode cX11_isLandAndText 1 = .ok (.iload_n 1, 1) := by decide +kernel
theorem dX11_isLandAndText_2 : decode cX11_isLandAndText 2 = .ok (.invokevirtual 145, 3) := by decide +kernel
theorem dX11_isLandAndText_5 : decode cX11_isLandAndText 5 = .ok (.ifCond .eq 15, 3) := by decide +kernel
theorem dX11_isLandAndText_8 : decode cX11_isLandAndText 8 = .ok (.aload_n 0, 1) := by decide +kernel
theorem dX11_isLandAndText_9 : decode cX11_isLandAndText 9 = .ok (.iload_n 2, 1) := by decide +kernel
theorem dX11_isLandAndText_10 : decode cX11_isLandAndText 10 = .ok (.invokevirtual 135, 3) := by decide +kernel
theorem dX11_isLandAndText_13 : decode cX11_isLandAndText 13 = .ok (.ifCond .eq 7, 3) := by decide +kernel
theorem dX11_isLandAndText_16 : decode cX11_isLandAndText 16 = .ok (.iconst 1, 1) := by decide +kernel
theorem dX11_isLandAndText_17 : decode cX11_isLandAndText 17 = .ok (.goto 4, 3) := by decide +kernel
theorem dX11_isLandAndText_20 : decode cX11_isLandAndText 20 = .ok (.iconst 0, 1) := by decide +kernel
theorem dX11_isLandAndText_21 : decode cX11_isLandAndText 21 = .ok (.ireturn, 1) := by decide +kernel
theorem dX11_isStock_0 : decode cX11_isStock 0 = .ok (.iload_n 0, 1) := by decide +kernel
theorem dX11_isStock_1 : decode cX11_isStock 1 = .ok (.ifCond .lt 14, 3) := by decide +kernel
theorem dX11_isStock_4 : decode cX11_isStock 4 = .ok (.iload_n 0, 1) := by decide +kernel
theorem dX11_isStock_5 : decode cX11_isStock 5 = .ok (.sipush 9999, 3) := by decide +kernel
theorem dX11_isStock_8 : decode cX11_isStock 8 = .ok (.if_icmp .gt 7, 3) := by decide +kernel
theorem dX11_isStock_11 : decode cX11_isStock 11 = .ok (.iconst 1, 1) := by decide +kernel
theorem dX11_isStock_12 : decode cX11_isStock 12 = .ok (.goto 4, 3) := by decide +kernel
theorem dX11_isStock_15 : decode cX11_isStock 15 = .ok (.iconst 0, 1) := by decide +kernel
theorem dX11_isStock_16 : decode cX11_isStock 16 = .ok (.ireturn, 1) := by decide +kernel
theorem dX11_kinds_0 : decode cX11_kinds 0 = .ok (.aload_n 0, 1) := by decide +kernel
theorem dX11_kinds_1 : decode cX11_kinds 1 = .ok (.iload_n 1, 1) := by decide +kernel
theorem dX11_kinds_2 : decode cX11_kinds 2 = .ok (.iload_n 2, 1) := by decide +kernel
theorem dX11_kinds_3 : decode cX11_kinds 3 = .ok (.iload_n 3, 1) := by decide +kernel
theorem dX11_kinds_4 : decode cX11_kinds 4 = .ok (.invokevirtual 191, 3) := by decide +kernel
theorem dX11_kinds_7 : decode cX11_kinds 7 = .ok (.ifCond .ne 6, 3) := by decide +kernel
theorem dX11_kinds_10 : decode cX11_kinds 10 = .ok (.bipush (-2), 2) := by decide +kernel
theorem dX11_kinds_12 : decode cX11_kinds 12 = .ok (.ireturn, 1) := by decide +kernel
theorem dX11_kinds_13 : decode cX11_kinds 13 = .ok (.iconst 0, 1) := by decide +kernel
theorem dX11_kinds_14 : decode cX11_kinds 14 = .ok (.istore 4, 2) := by decide +kernel
theorem dX11_kinds_16 : decode cX11_kinds 16 = .ok (.aload_n 0, 1) := by decide +kernel
theorem dX11_kinds_17 : decode cX11_kinds 17 = .ok (.getfield 28, 3) := by decide +kernel
theorem dX11_kinds_20 : decode cX11_kinds 20 = .ok (.iload_n 1, 1) := by decide +kernel
theorem dX11_kinds_21 : decode cX11_kinds 21 = .ok (.iload_n 2, 1) := by decide +kernel
theorem dX11_kinds_22 : decode cX11_kinds 22 = .ok (.iload_n 3, 1) := by decide +kernel
theorem dX11_kinds_23 : decode cX11_kinds 23 = .ok (.invokevirtual 198, 3) := by decide +kernel
theorem dX11_kinds_26 : decode cX11_kinds 26 = .ok (.istore 5, 2) := by decide +kernel
theorem dX11_kinds_28 : decode cX11_kinds 28 = .ok (.iconst 0, 1) := by decide +kernel
theorem dX11_kinds_29 : decode cX11_kinds 29 = .ok (.istore 6, 2) := by decide +kernel
theorem dX11_kinds_31 : decode cX11_kinds 31 = .ok (.iload 6, 2) := by decide +kernel
theorem dX11_kinds_33 : decode cX11_kinds 33 = .ok (.aload_n 0, 1) := by decide +kernel
theorem dX11_kinds_34 : decode cX11_kinds 34 = .ok (.getfield 28, 3) := by decide +kernel
theorem dX11_kinds_37 : decode cX11_kinds 37 = .ok (.getfield 109, 3) := by decide +kernel
theorem dX11_kinds_40 : decode cX11_kinds 40 = .ok (.getfield 138, 3) := by decide +kernel
theorem dX11_kinds_43 : decode cX11_kinds 43 = .ok (.iload_n 3, 1) := by decide +kernel
theorem dX11_kinds_44 : decode cX11_kinds 44 = .ok (.iaload, 1) := by decide +kernel
theorem dX11_kinds_45 : decode cX11_kinds 45 = .ok (.if_icmp .ge 79, 3) := by decide +kernel
theorem dX11_kinds_48 : decode cX11_kinds 48 = .ok (.aload_n 0, 1) := by decide +kernel
theorem dX11_kinds_49 : decode cX11_kinds 49 = .ok (.getfield 28, 3) := by decide +kernel
theorem dX11_kinds_52 : decode cX11_kinds 52 = .ok (.iload_n 1, 1) := by decide +kernel
theorem dX11_kinds_53 : decode cX11_kinds 53 = .ok (.iload_n 2, 1) := by decide +kernel
theorem dX11_kinds_54 : decode cX11_kinds 54 = .ok (.aload_n 0, 1) := by decide +kernel
theorem dX11_kinds_55 : decode cX11_kinds 55 = .ok (.getfield 28, 3) := by decide +kernel
theorem dX11_kinds_58 : decode cX11_kinds 58 = .ok (.getfield 109, 3) := by decide +kernel
theorem dX11_kinds_61 : decode cX11_kinds 61 = .ok (.iload_n 3, 1) := by decide +kernel
theorem dX11_kinds_62 : decode cX11_kinds 62 = .ok (.iload 6, 2) := by decide +kernel
theorem dX11_kinds_64 : decode cX11_kinds 64 = .ok (.invokevirtual 141, 3) := by decide +kernel
theorem dX11_kinds_67 : decode cX11_kinds 67 = .ok (.invokevirtual 161, 3) := by decide +kernel
theorem dX11_kinds_70 : decode cX11_kinds 70 = .ok (.istore 7, 2) := by decide +kernel
theorem dX11_kinds_72 : decode cX11_kinds 72 = .ok (.iload 5, 2) := by decide +kernel
theorem dX11_kinds_74 : decode cX11_kinds 74 = .ok (.iload 6, 2) := by decide +kernel
theorem dX11_kinds_76 : decode cX11_kinds 76 = .ok (.ishr, 1) := by decide +kernel
theorem dX11_kinds_77 : decode cX11_kinds 77 = .ok (.iconst 1, 1) := by decide +kernel
theorem dX11_kinds_78 : decode cX11_kinds 78 = .ok (.iand, 1) := by decide +kernel
theorem dX11_kinds_79 : decode cX11_kinds 79 = .ok (.iconst 1, 1) := by decide +kernel
theorem dX11_kinds_80 : decode cX11_kinds 80 = .ok (.if_icmp .ne 38, 3) := by decide +kernel
theorem dX11_kinds_83 : decode cX11_kinds 83 = .ok (.iload 7, 2) := by decide +kernel
theorem dX11_kinds_85 : decode cX11_kinds 85 = .ok (.aload_n 0, 1) := by decide +kernel
theorem dX11_kinds_86 : decode cX11_kinds 86 = .ok (.getfield 28, 3) := by decide +kernel
theorem dX11_kinds_89 : decode cX11_kinds 89 = .ok (.getfield 109, 3) := by decide +kernel
theorem dX11_kinds_92 : decode cX11_kinds 92 = .ok (.getfield 180, 3) := by decide +kernel
theorem dX11_kinds_95 : decode cX11_kinds 95 = .ok (.if_icmp .ge 23, 3) := by decide +kernel
theorem dX11_kinds_98 : decode cX11_kinds 98 = .ok (.iload 4, 2) := by decide +kernel
theorem dX11_kinds_100 : decode cX11_kinds 100 = .ok (.iconst 1, 1) := by decide +kernel
theorem dX11_kinds_101 : decode cX11_kinds 101 = .ok (.aload_n 0, 1) := by decide +kernel
theorem dX11_kinds_102 : decode cX11_kinds 102 = .ok (.getfield 28, 3) := by decide +kernel
theorem dX11_kinds_105 : decode cX11_kinds 105 = .ok (.getfield 109, 3) := by decide +kernel
theorem dX11_kinds_108 : decode cX11_kinds 108 = .ok (.getfield 128, 3) := by decide +kernel
theorem dX11_kinds_111 : decode cX11_kinds 111 = .ok (.iload 7, 2) := by decide +kernel
theorem dX11_kinds_113 : decode cX11_kinds 113 = .ok (.iaload, 1) := by decide +kernel
theorem dX11_kinds_114 : decode cX11_kinds 114 = .ok (.ishl, 1) := by decide +kernel
theorem dX11_kinds_115 : decode cX11_kinds 115 = .ok (.ior, 1) := by decide +kernel
theorem dX11_kinds_116 : decode cX11_kinds 116 = .ok (.istore 4, 2) := by decide +kernel
theorem dX11_kinds_118 : decode cX11_kinds 118 = .ok (.iinc 6 1, 3) := by decide +kernel
theorem dX11_kinds_121 : decode cX11_kinds 121 = .ok (.goto (-90), 3) := by decide +kernel
theorem dX11_kinds_124 : decode cX11_kinds 124 = .ok (.iload 4, 2) := by decide +kernel
theorem dX11_kinds_126 : decode cX11_kinds 126 = .ok (.ireturn, 1) := by decide +kernel
theorem dX11_lost_0 : decode cX11_lost 0 = .ok (.aload_n 0, 1) := by decide +kernel
theorem dX11_lost_1 : decode cX11_lost 1 = .ok (.iload_n 1, 1) := by decide +kernel
theorem dX11_lost_2 : decode cX11_lost 2 = .ok (.iload_n 2, 1) := by decide +kernel
theorem dX11_lost_3 : decode cX11_lost 3 = .ok (.iload_n 3, 1) := by decide +kernel
theorem dX11_lost_4 : decode cX11_lost 4 = .ok (.invokevirtual 191, 3) := by decide +kernel
theorem dX11_lost_7 : decode cX11_lost 7 = .ok (.ifCond .ne 6, 3) := by decide +kernel
theorem dX11_lost_10 : decode cX11_lost 10 = .ok (.bipush (-2), 2) := by decide +kernel
theorem dX11_lost_12 : decode cX11_lost 12 = .ok (.ireturn, 1) := by decide +kernel
theorem dX11_lost_13 : decode cX11_lost 13 = .ok (.aload_n 0, 1) := by decide +kernel
theorem dX11_lost_14 : decode cX11_lost 14 = .ok (.getfield 28, 3) := by decide +kernel
theorem dX11_lost_17 : decode cX11_lost 17 = .ok (.iload_n 1, 1) := by decide +kernel
theorem dX11_lost_18 : decode cX11_lost 18 = .ok (.iload_n 2, 1) := by decide +kernel
theorem dX11_lost_19 : decode cX11_lost 19 = .ok (.iload_n 3, 1) := by decide +kernel
theorem dX11_lost_20 : decode cX11_lost 20 = .ok (.invokevirtual 198, 3) := by decide +kernel
theorem dX11_lost_23 : decode cX11_lost 23 = .ok (.istore 4, 2) := by decide +kernel
theorem dX11_lost_25 : decode cX11_lost 25 = .ok (.aload_n 0, 1) := by decide +kernel
theorem dX11_lost_26 : decode cX11_lost 26 = .ok (.getfield 28, 3) := by decide +kernel
theorem dX11_lost_29 : decode cX11_lost 29 = .ok (.getfield 109, 3) := by decide +kernel
theorem dX11_lost_32 : decode cX11_lost 32 = .ok (.getfield 138, 3) := by decide +kernel
theorem dX11_lost_35 : decode cX11_lost 35 = .ok (.iload_n 3, 1) := by decide +kernel
theorem dX11_lost_36 : decode cX11_lost 36 = .ok (.iaload, 1) := by decide +kernel
theorem dX11_lost_37 : decode cX11_lost 37 = .ok (.iload 4, 2) := by decide +kernel
theorem dX11_lost_39 : decode cX11_lost 39 = .ok (.invokestatic 201, 3) := by decide +kernel
theorem dX11_lost_42 : decode cX11_lost 42 = .ok (.isub, 1) := by decide +kernel
theorem dX11_lost_43 : decode cX11_lost 43 = .ok (.ireturn, 1) := by decide +kernel
theorem dX11_richest_0 : decode cX11_richest 0 = .ok (.aload_n 0, 1) := by decide +kernel
theorem dX11_richest_1 : decode cX11_richest 1 = .ok (.iload_n 1, 1) := by decide +kernel
theorem dX11_richest_2 : decode cX11_richest 2 = .ok (.invokevirtual 145, 3) := by decide +kernel
theorem dX11_richest_5 : decode cX11_richest 5 = .ok (.ifCond .eq 10, 3) := by decide +kernel
theorem dX11_richest_8 : decode cX11_richest 8 = .ok (.iload_n 2, 1) := by decide +kernel
theorem dX11_richest_9 : decode cX11_richest 9 = .ok (.invokestatic 158, 3) := by decide +kernel
theorem dX11_richest_12 : decode cX11_richest 12 = .ok (.ifCond .ne 6, 3) := by decide +kernel
theorem dX11_richest_15 : decode cX11_richest 15 = .ok (.bipush (-2), 2) := by decide +kernel
theorem dX11_richest_17 : decode cX11_richest 17 = .ok (.ireturn, 1) := by decide +kernel
theorem dX11_richest_18 : decode cX11_richest 18 = .ok (.aload_n 0, 1) := by decide +kernel
theorem dX11_richest_19 : decode cX11_richest 19 = .ok (.getfield 28, 3) := by decide +kernel
theorem dX11_richest_22 : decode cX11_richest 22 = .ok (.iload_n 1, 1) := by decide +kernel
theorem dX11_richest_23 : decode cX11_richest 23 = .ok (.iload_n 2, 1) := by decide +kernel
theorem dX11_richest_24 : decode cX11_richest 24 = .ok (.iconst 0, 1) := by decide +kernel
theorem dX11_richest_25 : decode cX11_richest 25 = .ok (.invokevirtual 245, 3) := by decide +kernel
theorem dX11_richest_28 : decode cX11_richest 28 = .ok (.ireturn, 1) := by decide +kernel
theorem dX11_run_0 : decode cX11_run 0 = .ok (.aload_n 0, 1) := by decide +kernel
theorem dX11_run_1 : decode cX11_run 1 = .ok (.iload_n 1, 1) := by decide +kernel
theorem dX11_run_2 : decode cX11_run 2 = .ok (.iload_n 2, 1) := by decide +kernel
theorem dX11_run_3 : decode cX11_run 3 = .ok (.invokevirtual 216, 3) := by decide +kernel
theorem dX11_run_6 : decode cX11_run 6 = .ok (.ifCond .ne 6, 3) := by decide +kernel
theorem dX11_run_9 : decode cX11_run 9 = .ok (.bipush (-2), 2) := by decide +kernel
theorem dX11_run_11 : decode cX11_run 11 = .ok (.ireturn, 1) := by decide +kernel
theorem dX11_run_12 : decode cX11_run 12 = .ok (.iconst 0, 1) := by decide +kernel
theorem dX11_run_13 : decode cX11_run 13 = .ok (.istore_n 3, 1) := by decide +kernel
theorem dX11_run_14 : decode cX11_run 14 = .ok (.iconst 0, 1) := by decide +kernel
theorem dX11_run_15 : decode cX11_run 15 = .ok (.istore 4, 2) := by decide +kernel
theorem dX11_run_17 : decode cX11_run 17 = .ok (.aload_n 0, 1) := by decide +kernel
theorem dX11_run_18 : decode cX11_run 18 = .ok (.getfield 28, 3) := by decide +kernel
theorem dX11_run_21 : decode cX11_run 21 = .ok (.iload_n 1, 1) := by decide +kernel
theorem dX11_run_22 : decode cX11_run 22 = .ok (.invokevirtual 170, 3) := by decide +kernel
theorem dX11_run_25 : decode cX11_run 25 = .ok (.istore 5, 2) := by decide +kernel
theorem dX11_run_27 : decode cX11_run 27 = .ok (.iconst 0, 1) := by decide +kernel
theorem dX11_run_28 : decode cX11_run 28 = .ok (.istore 6, 2) := by decide +kernel
theorem dX11_run_30 : decode cX11_run 30 = .ok (.iload 6, 2) := by decide +kernel
theorem dX11_run_32 : decode cX11_run 32 = .ok (.iload 5, 2) := by decide +kernel
theorem dX11_run_34 : decode cX11_run 34 = .ok (.if_icmp .ge 40, 3) := by decide +kernel
theorem dX11_run_37 : decode cX11_run 37 = .ok (.aload_n 0, 1) := by decide +kernel
theorem dX11_run_38 : decode cX11_run 38 = .ok (.getfield 28, 3) := by decide +kernel
theorem dX11_run_41 : decode cX11_run 41 = .ok (.iload_n 1, 1) := by decide +kernel
theorem dX11_run_42 : decode cX11_run 42 = .ok (.iload 6, 2) := by decide +kernel
theorem dX11_run_44 : decode cX11_run 44 = .ok (.iload_n 2, 1) := by decide +kernel
theorem dX11_run_45 : decode cX11_run 45 = .ok (.invokevirtual 230, 3) := by decide +kernel
theorem dX11_run_48 : decode cX11_run 48 = .ok (.ifCond .eq 10, 3) := by decide +kernel
theorem dX11_run_51 : decode cX11_run 51 = .ok (.iload 4, 2) := by decide +kernel
theorem dX11_run_53 : decode cX11_run 53 = .ok (.iconst 1, 1) := by decide +kernel
theorem dX11_run_54 : decode cX11_run 54 = .ok (.iadd, 1) := by decide +kernel
theorem dX11_run_55 : decode cX11_run 55 = .ok (.goto 4, 3) := by decide +kernel
theorem dX11_run_58 : decode cX11_run 58 = .ok (.iconst 0, 1) := by decide +kernel
theorem dX11_run_59 : decode cX11_run 59 = .ok (.istore 4, 2) := by decide +kernel
theorem dX11_run_61 : decode cX11_run 61 = .ok (.iload_n 3, 1) := by decide +kernel
theorem dX11_run_62 : decode cX11_run 62 = .ok (.iload 4, 2) := by decide +kernel
theorem dX11_run_64 : decode cX11_run 64 = .ok (.invokestatic 233, 3) := by decide +kernel
theorem dX11_run_67 : decode cX11_run 67 = .ok (.istore_n 3, 1) := by decide +kernel
theorem dX11_run_68 : decode cX11_run 68 = .ok (.iinc 6 1, 3) := by decide +kernel
theorem dX11_run_71 : decode cX11_run 71 = .ok (.goto (-41), 3) := by decide +kernel
theorem dX11_run_74 : decode cX11_run 74 = .ok (.iload_n 3, 1) := by decide +kernel
theorem dX11_run_75 : decode cX11_run 75 = .ok (.ireturn, 1) := by decide +kernel
theorem dX11_sorts_0 : decode cX11_sorts 0 = .ok (.aload_n 0, 1) := by decide +kernel
theorem dX11_sorts_1 : decode cX11_sorts 1 = .ok (.iload_n 1, 1) := by decide +kernel
theorem dX11_sorts_2 : decode cX11_sorts 2 = .ok (.iload_n 2, 1) := by decide +kernel
theorem dX11_sorts_3 : decode cX11_sorts 3 = .ok (.invokevirtual 216, 3) := by decide +kernel
theorem dX11_sorts_6 : decode cX11_sorts 6 = .ok (.ifCond .ne 6, 3) := by decide +kernel
theorem dX11_sorts_9 : decode cX11_sorts 9 = .ok (.bipush (-2), 2) := by decide +kernel
theorem dX11_sorts_11 : decode cX11_sorts 11 = .ok (.ireturn, 1) := by decide +kernel
theorem dX11_sorts_12 : decode cX11_sorts 12 = .ok (.aload_n 0, 1) := by decide +kernel
theorem dX11_sorts_13 : decode cX11_sorts 13 = .ok (.getfield 53, 3) := by decide +kernel
theorem dX11_sorts_16 : decode cX11_sorts 16 = .ok (.invokevirtual 220, 3) := by decide +kernel
theorem dX11_sorts_19 : decode cX11_sorts 19 = .ok (.aload_n 0, 1) := by decide +kernel
theorem dX11_sorts_20 : decode cX11_sorts 20 = .ok (.getfield 28, 3) := by decide +kernel
theorem dX11_sorts_23 : decode cX11_sorts 23 = .ok (.iload_n 1, 1) := by decide +kernel
theorem dX11_sorts_24 : decode cX11_sorts 24 = .ok (.invokevirtual 170, 3) := by decide +kernel
theorem dX11_sorts_27 : decode cX11_sorts 27 = .ok (.istore_n 3, 1) := by decide +kernel
theorem dX11_sorts_28 : decode cX11_sorts 28 = .ok (.iconst 0, 1) := by decide +kernel
theorem dX11_sorts_29 : decode cX11_sorts 29 = .ok (.istore 4, 2) := by decide +kernel
theorem dX11_sorts_31 : decode cX11_sorts 31 = .ok (.iload 4, 2) := by decide +kernel
theorem dX11_sorts_33 : decode cX11_sorts 33 = .ok (.iload_n 3, 1) := by decide +kernel
theorem dX11_sorts_34 : decode cX11_sorts 34 = .ok (.if_icmp .ge 27, 3) := by decide +kernel
theorem dX11_sorts_37 : decode cX11_sorts 37 = .ok (.aload_n 0, 1) := by decide +kernel
theorem dX11_sorts_38 : decode cX11_sorts 38 = .ok (.getfield 53, 3) := by decide +kernel
theorem dX11_sorts_41 : decode cX11_sorts 41 = .ok (.aload_n 0, 1) := by decide +kernel
theorem dX11_sorts_42 : decode cX11_sorts 42 = .ok (.getfield 28, 3) := by decide +kernel
theorem dX11_sorts_45 : decode cX11_sorts 45 = .ok (.iload_n 1, 1) := by decide +kernel
theorem dX11_sorts_46 : decode cX11_sorts 46 = .ok (.iload 4, 2) := by decide +kernel
theorem dX11_sorts_48 : decode cX11_sorts 48 = .ok (.iload_n 2, 1) := by decide +kernel
theorem dX11_sorts_49 : decode cX11_sorts 49 = .ok (.invokevirtual 195, 3) := by decide +kernel
theorem dX11_sorts_52 : decode cX11_sorts 52 = .ok (.invokevirtual 223, 3) := by decide +kernel
theorem dX11_sorts_55 : decode cX11_sorts 55 = .ok (.iinc 4 1, 3) := by decide +kernel
theorem dX11_sorts_58 : decode cX11_sorts 58 = .ok (.goto (-27), 3) := by decide +kernel
theorem dX11_sorts_61 : decode cX11_sorts 61 = .ok (.aload_n 0, 1) := by decide +kernel
theorem dX11_sorts_62 : decode cX11_sorts 62 = .ok (.getfield 53, 3) := by decide +kernel
theorem dX11_sorts_65 : decode cX11_sorts 65 = .ok (.invokevirtual 224, 3) := by decide +kernel
theorem dX11_sorts_68 : decode cX11_sorts 68 = .ok (.ireturn, 1) := by decide +kernel
theorem dX11_worst_0 : decode cX11_worst 0 = .ok (.aload_n 0, 1) := by decide +kernel
theorem dX11_worst_1 : decode cX11_worst 1 = .ok (.iload_n 1, 1) := by decide +kernel
theorem dX11_worst_2 : decode cX11_worst 2 = .ok (.iload_n 2, 1) := by decide +kernel
theorem dX11_worst_3 : decode cX11_worst 3 = .ok (.iload 4, 2) := by decide +kernel
theorem dX11_worst_5 : decode cX11_worst 5 = .ok (.invokevirtual 191, 3) := by decide +kernel
theorem dX11_worst_8 : decode cX11_worst 8 = .ok (.ifCond .eq 15, 3) := by decide +kernel
theorem dX11_worst_11 : decode cX11_worst 11 = .ok (.iload_n 3, 1) := by decide +kernel
theorem dX11_worst_12 : decode cX11_worst 12 = .ok (.iconst 1, 1) := by decide +kernel
theorem dX11_worst_13 : decode cX11_worst 13 = .ok (.if_icmp .lt 10, 3) := by decide +kernel
theorem dX11_worst_16 : decode cX11_worst 16 = .ok (.iload_n 3, 1) := by decide +kernel
theorem dX11_worst_17 : decode cX11_worst 17 = .ok (.sipush 1000, 3) := by decide +kernel
theorem dX11_worst_20 : decode cX11_worst 20 = .ok (.if_icmp .le 6, 3) := by decide +kernel
theorem dX11_worst_23 : decode cX11_worst 23 = .ok (.bipush (-2), 2) := by decide +kernel
theorem dX11_worst_25 : decode cX11_worst 25 = .ok (.ireturn, 1) := by decide +kernel
theorem dX11_worst_26 : decode cX11_worst 26 = .ok (.aload_n 0, 1) := by decide +kernel
theorem dX11_worst_27 : decode cX11_worst 27 = .ok (.getfield 28, 3) := by decide +kernel
theorem dX11_worst_30 : decode cX11_worst 30 = .ok (.iload_n 1, 1) := by decide +kernel
theorem dX11_worst_31 : decode cX11_worst 31 = .ok (.iload_n 2, 1) := by decide +kernel
theorem dX11_worst_32 : decode cX11_worst 32 = .ok (.iload_n 3, 1) := by decide +kernel
theorem dX11_worst_33 : decode cX11_worst 33 = .ok (.iload 4, 2) := by decide +kernel
theorem dX11_worst_35 : decode cX11_worst 35 = .ok (.iconst (-1), 1) := by decide +kernel
theorem dX11_worst_36 : decode cX11_worst 36 = .ok (.invokevirtual 212, 3) := by decide +kernel
theorem dX11_worst_39 : decode cX11_worst 39 = .ok (.ireturn, 1) := by decide +kernel
theorem dX8_add_0 : decode cX8_add 0 = .ok (.aload_n 0, 1) := by decide +kernel
theorem dX8_add_1 : decode cX8_add 1 = .ok (.getfield 15, 3) := by decide +kernel
theorem dX8_add_4 : decode cX8_add 4 = .ok (.sipush 210, 3) := by decide +kernel
theorem dX8_add_7 : decode cX8_add 7 = .ok (.if_icmp .ge 23, 3) := by decide +kernel
theorem dX8_add_10 : decode cX8_add 10 = .ok (.aload_n 0, 1) := by decide +kernel
theorem dX8_add_11 : decode cX8_add 11 = .ok (.getfield 9, 3) := by decide +kernel
theorem dX8_add_14 : decode cX8_add 14 = .ok (.aload_n 0, 1) := by decide +kernel
theorem dX8_add_15 : decode cX8_add 15 = .ok (.getfield 15, 3) := by decide +kernel
theorem dX8_add_18 : decode cX8_add 18 = .ok (.iload_n 1, 1) := by decide +kernel
theorem dX8_add_19 : decode cX8_add 19 = .ok (.iastore, 1) := by decide +kernel
theorem dX8_add_20 : decode cX8_add 20 = .ok (.aload_n 0, 1) := by decide +kernel
theorem dX8_add_21 : decode cX8_add 21 = .ok (.dup, 1) := by decide +kernel
theorem dX8_add_22 : decode cX8_add 22 = .ok (.getfield 15, 3) := by decide +kernel
theorem dX8_add_25 : decode cX8_add 25 = .ok (.iconst 1, 1) := by decide +kernel
theorem dX8_add_26 : decode cX8_add 26 = .ok (.iadd, 1) := by decide +kernel
theorem dX8_add_27 : decode cX8_add 27 = .ok (.putfield 15, 3) := by decide +kernel
theorem dX8_add_30 : decode cX8_add 30 = .ok (.return_, 1) := by decide +kernel
theorem dX8_alikeFrom_0 : decode cX8_alikeFrom 0 = .ok (.iconst 0, 1) := by decide +kernel
theorem dX8_alikeFrom_1 : decode cX8_alikeFrom 1 = .ok (.istore_n 2, 1) := by decide +kernel
theorem dX8_alikeFrom_2 : decode cX8_alikeFrom 2 = .ok (.iload_n 1, 1) := by decide +kernel
theorem dX8_alikeFrom_3 : decode cX8_alikeFrom 3 = .ok (.istore_n 3, 1) := by decide +kernel
theorem dX8_alikeFrom_4 : decode cX8_alikeFrom 4 = .ok (.iload_n 3, 1) := by decide +kernel
theorem dX8_alikeFrom_5 : decode cX8_alikeFrom 5 = .ok (.aload_n 0, 1) := by decide +kernel
theorem dX8_alikeFrom_6 : decode cX8_alikeFrom 6 = .ok (.getfield 15, 3) := by decide +kernel
theorem dX8_alikeFrom_9 : decode cX8_alikeFrom 9 = .ok (.if_icmp .ge 27, 3) := by decide +kernel
theorem dX8_alikeFrom_12 : decode cX8_alikeFrom 12 = .ok (.aload_n 0, 1) := by decide +kernel
theorem dX8_alikeFrom_13 : decode cX8_alikeFrom 13 = .ok (.getfield 9, 3) := by decide +kernel
theorem dX8_alikeFrom_16 : decode cX8_alikeFrom 16 = .ok (.iload_n 3, 1) := by decide +kernel
theorem dX8_alikeFrom_17 : decode cX8_alikeFrom 17 = .ok (.iaload, 1) := by decide +kernel
theorem dX8_alikeFrom_18 : decode cX8_alikeFrom 18 = .ok (.aload_n 0, 1) := by decide +kernel
theorem dX8_alikeFrom_19 : decode cX8_alikeFrom 19 = .ok (.getfield 9, 3) := by decide +kernel
theorem dX8_alikeFrom_22 : decode cX8_alikeFrom 22 = .ok (.iload_n 1, 1) := by decide +kernel
theorem dX8_alikeFrom_23 : decode cX8_alikeFrom 23 = .ok (.iaload, 1) := by decide +kernel
theorem dX8_alikeFrom_24 : decode cX8_alikeFrom 24 = .ok (.if_icmp .ne 6, 3) := by decide +kernel
theorem dX8_alikeFrom_27 : decode cX8_alikeFrom 27 = .ok (.iinc 2 1, 3) := by decide +kernel
theorem dX8_alikeFrom_30 : decode cX8_alikeFrom 30 = .ok (.iinc 3 1, 3) := by decide +kernel
theorem dX8_alikeFrom_33 : decode cX8_alikeFrom 33 = .ok (.goto (-29), 3) := by decide +kernel
theorem dX8_alikeFrom_36 : decode cX8_alikeFrom 36 = .ok (.iload_n 2, 1) := by decide +kernel
theorem dX8_alikeFrom_37 : decode cX8_alikeFrom 37 = .ok (.ireturn, 1) := by decide +kernel
theorem dX8_empty_0 : decode cX8_empty 0 = .ok (.aload_n 0, 1) := by decide +kernel
theorem dX8_empty_1 : decode cX8_empty 1 = .ok (.iconst 0, 1) := by decide +kernel
theorem dX8_empty_2 : decode cX8_empty 2 = .ok (.putfield 15, 3) := by decide +kernel
theorem dX8_empty_5 : decode cX8_empty 5 = .ok (.return_, 1) := by decide +kernel
theorem dX8_unlike_0 : decode cX8_unlike 0 = .ok (.iconst 0, 1) := by decide +kernel
theorem dX8_unlike_1 : decode cX8_unlike 1 = .ok (.istore_n 1, 1) := by decide +kernel
theorem dX8_unlike_2 : decode cX8_unlike 2 = .ok (.iconst 0, 1) := by decide +kernel
theorem dX8_unlike_3 : decode cX8_unlike 3 = .ok (.istore_n 2, 1) := by decide +kernel
theorem dX8_unlike_4 : decode cX8_unlike 4 = .ok (.iload_n 2, 1) := by decide +kernel
theorem dX8_unlike_5 : decode cX8_unlike 5 = .ok (.aload_n 0, 1) := by decide +kernel
theorem dX8_unlike_6 : decode cX8_unlike 6 = .ok (.getfield 15, 3) := by decide +kernel
theorem dX8_unlike_9 : decode cX8_unlike 9 = .ok (.if_icmp .ge 21, 3) := by decide +kernel
theorem dX8_unlike_12 : decode cX8_unlike 12 = .ok (.aload_n 0, 1) := by decide +kernel
theorem dX8_unlike_13 : decode cX8_unlike 13 = .ok (.iload_n 2, 1) := by decide +kernel
theorem dX8_unlike_14 : decode cX8_unlike 14 = .ok (.invokevirtual 19, 3) := by decide +kernel
theorem dX8_unlike_17 : decode cX8_unlike 17 = .ok (.iconst 1, 1) := by decide +kernel
theorem dX8_unlike_18 : decode cX8_unlike 18 = .ok (.if_icmp .ne 6, 3) := by decide +kernel
theorem dX8_unlike_21 : decode cX8_unlike 21 = .ok (.iinc 1 1, 3) := by decide +kernel
theorem dX8_unlike_24 : decode cX8_unlike 24 = .ok (.iinc 2 1, 3) := by decide +kernel
theorem dX8_unlike_27 : decode cX8_unlike 27 = .ok (.goto (-23), 3) := by decide +kernel
theorem dX8_unlike_30 : decode cX8_unlike 30 = .ok (.iload_n 1, 1) := by decide +kernel
theorem dX8_unlike_31 : decode cX8_unlike 31 = .ok (.ireturn, 1) := by decide +kernel
theorem mm_k1000 : mm_rg 1000 1000 1000 := ⟨by decide, by decide⟩
theorem hd_X10_firstLeaving : yX10_firstLeaving.cls = RX10 ∧ yX10_firstLeaving.cls ≠ "java/lang/invoke/MethodHandle" ∧ yX10_firstLeaving.cls ≠ "java/lang/invoke/VarHandle" ∧ (parseMethodDescriptor yX10_firstLeaving.desc).map (fun d => d.parameters.length) = some 4 := by decide +kernel
theorem hd_X10_gains : yX10_gains.cls = RX10 ∧ yX10_gains.cls ≠ "java/lang/invoke/MethodHandle" ∧ yX10_gains.cls ≠ "java/lang/invoke/VarHandle" ∧ (parseMethodDescriptor yX10_gains.desc).map (fun d => d.parameters.length) = some 3 := by decide +kernel
theorem hd_X10_isClear : yX10_isClear.cls = RX10 ∧ yX10_isClear.cls ≠ "java/lang/invoke/MethodHandle" ∧ yX10_isClear.cls ≠ "java/lang/invoke/VarHandle" ∧ (parseMethodDescriptor yX10_isClear.desc).map (fun d => d.parameters.length) = some 3 := by decide +kernel
theorem hd_X10_leavingWith : yX10_leavingWith.cls = RX10 ∧ yX10_leavingWith.cls ≠ "java/lang/invoke/MethodHandle" ∧ yX10_leavingWith.cls ≠ "java/lang/invoke/VarHandle" ∧ (parseMethodDescriptor yX10_leavingWith.desc).map (fun d => d.parameters.length) = some 5 := by decide +kernel
theorem hd_X10_richestOf : yX10_richestOf.cls = RX10 ∧ yX10_richestOf.cls ≠ "java/lang/invoke/MethodHandle" ∧ yX10_richestOf.cls ≠ "java/lang/invoke/VarHandle" ∧ (parseMethodDescriptor yX10_richestOf.desc).map (fun d => d.parameters.length) = some 3 := by decide +kernel
theorem hd_X10_topDay : yX10_topDay.cls = RX10 ∧ yX10_topDay.cls ≠ "java/lang/invoke/MethodHandle" ∧ yX10_topDay.cls ≠ "java/lang/invoke/VarHandle" ∧ (parseMethodDescriptor yX10_topDay.desc).map (fun d => d.parameters.length) = some 5 := by decide +kernel
theorem hd_X11_isLandAndText : yX11_isLandAndText.cls = RX11 ∧ yX11_isLandAndText.cls ≠ "java/lang/invoke/MethodHandle" ∧ yX11_isLandAndText.cls ≠ "java/lang/invoke/VarHandle" ∧ (parseMethodDescriptor yX11_isLandAndText.desc).map (fun d => d.parameters.length) = some 2 := by decide +kernel
theorem hd_X8_add : yX8_add.cls = RX8 ∧ yX8_add.cls ≠ "java/lang/invoke/MethodHandle" ∧ yX8_add.cls ≠ "java/lang/invoke/VarHandle" ∧ (parseMethodDescriptor yX8_add.desc).map (fun d => d.parameters.length) = some 1 := by decide +kernel
theorem hd_X8_alikeFrom : yX8_alikeFrom.cls = RX8 ∧ yX8_alikeFrom.cls ≠ "java/lang/invoke/MethodHandle" ∧ yX8_alikeFrom.cls ≠ "java/lang/invoke/VarHandle" ∧ (parseMethodDescriptor yX8_alikeFrom.desc).map (fun d => d.parameters.length) = some 1 := by decide +kernel
theorem hd_X8_empty : yX8_empty.cls = RX8 ∧ yX8_empty.cls ≠ "java/lang/invoke/MethodHandle" ∧ yX8_empty.cls ≠ "java/lang/invoke/VarHandle" ∧ (parseMethodDescriptor yX8_empty.desc).map (fun d => d.parameters.length) = some 0 := by decide +kernel
theorem hd_X8_unlike : yX8_unlike.cls = RX8 ∧ yX8_unlike.cls ≠ "java/lang/invoke/MethodHandle" ∧ yX8_unlike.cls ≠ "java/lang/invoke/VarHandle" ∧ (parseMethodDescriptor yX8_unlike.desc).map (fun d => d.parameters.length) = some 0 := by decide +kernel
theorem hs_X11_inLowestTerms : yX11_inLowestTerms.cls ≠ "java/lang/invoke/MethodHandle" ∧ yX11_inLowestTerms.cls ≠ "java/lang/invoke/VarHandle" ∧ (parseMethodDescriptor yX11_inLowestTerms.desc).map (fun d => d.parameters.length) = some 3 := by decide +kernel
theorem hs_X11_isStock : yX11_isStock.cls ≠ "java/lang/invoke/MethodHandle" ∧ yX11_isStock.cls ≠ "java/lang/invoke/VarHandle" ∧ (parseMethodDescriptor yX11_isStock.desc).map (fun d => d.parameters.length) = some 1 := by decide +kernel
set_option maxHeartbeats 4000000 in
set_option maxRecDepth 100000 in
theorem K380_X10_firstLeaving (l : Launch) (G : va_G) (cy : Nat → ClassId) (sz : Nat) (a_0 : Nat) (i_0 : Int32) (i_1 : Int32) (i_2 : Int32) (i_3 : Int32) (a_1 : Nat) (a_2 : Nat) (i_4 : Int32) (i_5 : Int32) (i_6 : Int32) (i_7 : Int32) (i_8 : Int32) (i_9 : Int32) (i_10 : Int32) (i_11 : Int32) (a_3 : Nat) (a_4 : Nat) (a_5 : Nat) (a_6 : Nat) (a_7 : Nat) (a_8 : Nat) (a_9 : Nat) (a_10 : Nat) (a_11 : Nat) (a_12 : Nat) (f_0 : Nat → Int32) (f_1 : Nat → Int32) (f_2 : Nat → Int32) (f_3 : Nat → Int32) (f_4 : Nat → Int32) (a_13 : Nat) (a_14 : Nat) (a_15 : Nat) (a_16 : Nat) (a_17 : Nat) (i_12 : Int32) (i_13 : Int32) (i_14 : Int32) (f_5 : Nat → Int32) (a_18 : Nat) (a_19 : Nat) (i_15 : Int32) (i_16 : Int32) (i_17 : Int32) (f_6 : Nat → Int32) (a_20 : Nat) (a_21 : Nat) (i_18 : Int32) (i_19 : Int32) (i_20 : Int32) (f_7 : Nat → Int32) (h0 : mm_rg i_0 0 2) (h1 : mm_rg i_1 0 1000000001) (h2 : mm_rg i_2 0 5) (h3 : mm_rg i_7 0 99) (h4 : mm_rg i_8 0 9) (h5 : mm_ar f_0 (-1) 4) (h6 : mm_ar f_1 0 99) (h7 : mm_ar f_2 0 8) (h8 : mm_ar f_3 0 9) (h9 : mm_ar f_4 0 9) (h10 : mm_rg i_14 (-2147483648) 210) (h11 : mm_ar f_5 0 9) (h12 : mm_rg i_17 (-2147483648) 210) (h13 : mm_ar f_6 0 9) (h14 : mm_rg i_20 (-2147483648) 210) (h15 : mm_ar f_7 0 9)  : mm_CI l yX10_firstLeaving (mm_ws yX10_firstLeaving cX10_firstLeaving 6 (some .int)) ({ frames := 4, cells := 0, slots := 0, locals := 111 } : Room) G cy sz [(a_0, .inr (10, [.ref a_1, .ref a_2])), (a_1, .inr (0, [.int i_4, .int i_5, .int i_6, .int i_7, .int i_8, .int i_9, .int i_10, .int i_11, .ref a_3, .ref a_4, .ref a_5, .ref a_6, .ref a_7, .ref a_8, .ref a_9, .ref a_10, .ref a_11, .ref a_12])), (a_3, .inl (cy 1, 9, .inl f_0)), (a_4, .inl (cy 1, 9, .inl f_1)), (a_7, .inl (cy 1, 6, .inl f_2)), (a_8, .inl (cy 1, 48, .inl f_3)), (a_9, .inl (cy 1, 30, .inl f_4)), (a_2, .inl (cy 5, 3, .inr (.inr (.inr (.inr (va_up (va_up (va_up (fun _ => none) 0 (some a_13)) 1 (some a_14)) 2 (some a_15))))))), (a_13, .inr (1, [.ref a_16, .ref a_17, .int i_12, .int i_13, .int i_14])), (a_16, .inl (cy 1, 2100, .inl f_5)), (a_14, .inr (1, [.ref a_18, .ref a_19, .int i_15, .int i_16, .int i_17])), (a_18, .inl (cy 1, 2100, .inl f_6)), (a_15, .inr (1, [.ref a_20, .ref a_21, .int i_18, .int i_19, .int i_20])), (a_20, .inl (cy 1, 2100, .inl f_7))] [.ref a_0, .int i_0, .int i_1, .int i_2, .int i_3] (fun u : Unit => [(a_0, .inr (10, [.ref a_1, .ref a_2])), (a_1, .inr (0, [.int i_4, .int i_5, .int i_6, .int i_7, .int i_8, .int i_9, .int i_10, .int i_11, .ref a_3, .ref a_4, .ref a_5, .ref a_6, .ref a_7, .ref a_8, .ref a_9, .ref a_10, .ref a_11, .ref a_12])), (a_3, .inl (cy 1, 9, .inl f_0)), (a_4, .inl (cy 1, 9, .inl f_1)), (a_7, .inl (cy 1, 6, .inl f_2)), (a_8, .inl (cy 1, 48, .inl f_3)), (a_9, .inl (cy 1, 30, .inl f_4)), (a_2, .inl (cy 5, 3, .inr (.inr (.inr (.inr (va_up (va_up (va_up (fun _ => none) 0 (some a_13)) 1 (some a_14)) 2 (some a_15))))))), (a_13, .inr (1, [.ref a_16, .ref a_17, .int i_12, .int i_13, .int i_14])), (a_16, .inl (cy 1, 2100, .inl f_5)), (a_14, .inr (1, [.ref a_18, .ref a_19, .int i_15, .int i_16, .int i_17])), (a_18, .inl (cy 1, 2100, .inl f_6)), (a_15, .inr (1, [.ref a_20, .ref a_21, .int i_18, .int i_19, .int i_20])), (a_20, .inl (cy 1, 2100, .inl f_7))]) (fun (r : Int32) (u : Unit) => mm_rg r (-1) 1000000210) 0 0 := by
  refine mm_begin (lv := [(0, .ref a_0), (1, .int i_0), (2, .int i_1), (3, .int i_2), (4, .int i_3)]) (by decide) (Nat.le_of_ble_eq_true rfl) rfl ?_
  intro p e s m below meth c A ls R args Q H locs hRe hQ hAe hx hb hr hlocks hml hown hnm hts hsz hA hS hP hK hD hZ hl
  have hRf : R.frames = 4 := by rw [hRe]
  have hRl : R.locals = 111 := by rw [hRe]
  have hRc : R.cells = 0 := by rw [hRe]
  have hRs : R.slots = 0 := by rw [hRe]
  refine lv_iconst (v := 0) hx hb dX10_firstLeaving_0 (by decide) ?_
  refine lv_istore (lv' := [(5, .int 0), (0, .ref a_0), (1, .int i_0), (2, .int i_1), (3, .int i_2), (4, .int i_3)]) hx hb dX10_firstLeaving_1 hl (by decide) rfl ?_
  clear hl
  clear ls
  intro ls hl
  have L3_160 : ∀ (n : Nat) (x3_5_160 : Int32), mm_rg x3_5_160 0 210 → (210 - x3_5_160.toInt).toNat < n → ∀ (H : Heap) (locs : List Loc), va_P G vwCl [(a_0, .inr (10, [.ref a_1, .ref a_2])), (a_1, .inr (0, [.int i_4, .int i_5, .int i_6, .int i_7, .int i_8, .int i_9, .int i_10, .int i_11, .ref a_3, .ref a_4, .ref a_5, .ref a_6, .ref a_7, .ref a_8, .ref a_9, .ref a_10, .ref a_11, .ref a_12])), (a_3, .inl (cy 1, 9, .inl f_0)), (a_4, .inl (cy 1, 9, .inl f_1)), (a_7, .inl (cy 1, 6, .inl f_2)), (a_8, .inl (cy 1, 48, .inl f_3)), (a_9, .inl (cy 1, 30, .inl f_4)), (a_2, .inl (cy 5, 3, .inr (.inr (.inr (.inr (va_up (va_up (va_up (fun _ => none) 0 (some a_13)) 1 (some a_14)) 2 (some a_15))))))), (a_13, .inr (1, [.ref a_16, .ref a_17, .int i_12, .int i_13, .int i_14])), (a_16, .inl (cy 1, 2100, .inl f_5)), (a_14, .inr (1, [.ref a_18, .ref a_19, .int i_15, .int i_16, .int i_17])), (a_18, .inl (cy 1, 2100, .inl f_6)), (a_15, .inr (1, [.ref a_20, .ref a_21, .int i_18, .int i_19, .int i_20])), (a_20, .inl (cy 1, 2100, .inl f_7))] H → va_D A [(a_0, .inr (10, [.ref a_1, .ref a_2])), (a_1, .inr (0, [.int i_4, .int i_5, .int i_6, .int i_7, .int i_8, .int i_9, .int i_10, .int i_11, .ref a_3, .ref a_4, .ref a_5, .ref a_6, .ref a_7, .ref a_8, .ref a_9, .ref a_10, .ref a_11, .ref a_12])), (a_3, .inl (cy 1, 9, .inl f_0)), (a_4, .inl (cy 1, 9, .inl f_1)), (a_7, .inl (cy 1, 6, .inl f_2)), (a_8, .inl (cy 1, 48, .inl f_3)), (a_9, .inl (cy 1, 30, .inl f_4)), (a_2, .inl (cy 5, 3, .inr (.inr (.inr (.inr (va_up (va_up (va_up (fun _ => none) 0 (some a_13)) 1 (some a_14)) 2 (some a_15))))))), (a_13, .inr (1, [.ref a_16, .ref a_17, .int i_12, .int i_13, .int i_14])), (a_16, .inl (cy 1, 2100, .inl f_5)), (a_14, .inr (1, [.ref a_18, .ref a_19, .int i_15, .int i_16, .int i_17])), (a_18, .inl (cy 1, 2100, .inl f_6)), (a_15, .inr (1, [.ref a_20, .ref a_21, .int i_18, .int i_19, .int i_20])), (a_20, .inl (cy 1, 2100, .inl f_7))] → va_S A s.heap H locs → ∀ (ls : Array Slot), lv_has ls 6 [(5, .int x3_5_160), (0, .ref a_0), (1, .int i_0), (2, .int i_1), (3, .int i_2), (4, .int i_3)] → W p l e R s m args below meth c H locs 0 0 Q (F0 m 3 ls []) := by
    intro n
    induction n with
    | zero => intro x3_5_160 rx3_5_160 hm; exact absurd hm (Nat.not_lt_zero _)
    | succ n ih3 =>
      intro x3_5_160 rx3_5_160 hm3 H locs hP hD hS ls hl
      refine lv_iload hx hb dX10_firstLeaving_3 (lv_at hl 0 rfl) ?_
      refine lv_aload_n hx hb dX10_firstLeaving_5 rfl (lv_at hl 1 rfl) ?_
      refine lv_iload_n hx hb dX10_firstLeaving_6 rfl (lv_at hl 2 rfl) ?_
      refine mm_finir (va_runV (As := [.int i_0]) (rest := [.int x3_5_160]) ⟨hx, hb, hml, hown, hts⟩ (K360_X10_period l G cy H.size a_0 i_0 a_1 a_2 a_13 a_14 a_15 a_16 a_17 i_12 i_13 i_14 a_18 a_19 i_15 i_16 i_17 a_20 a_21 i_18 i_19 i_20 h0 h10 h12 h14) (cwV 1 hts (mm_gV mm_w768 mm_w744 mm_w745 mm_w23 mm_w746) rfl rfl rfl hd_X10_period ⟨by rw [hRf]; exact Nat.le_of_ble_eq_true rfl, by rw [hRl]; exact Nat.le_of_ble_eq_true rfl⟩) (mm_preV hK hZ hS hA hP hD [0, 7, 8, 10, 12] rfl rfl 0 rfl rfl rfl) rfl rfl hl.1 rfl (lv_room (Nat.le_of_ble_eq_true rfl)) dX10_firstLeaving_7 ⟨by rw [hRc]; exact Nat.le_of_ble_eq_true rfl, by rw [hRs]; exact Nat.le_of_ble_eq_true rfl⟩) hP hD hS hA [0, 7, 8, 10, 12] rfl (fun _ => rfl) ?_
      clear hP hD hS
      clear H locs
      intro v162 _u H locs hw hP hD hS
      have w163 := hw
      refine lv_icmp_ge (tgt := 39) hx hb dX10_firstLeaving_10 (by decide) (fun c164 => ?_) (fun c164 => ?_)
      · refine lv_iconst (v := (-1)) hx hb dX10_firstLeaving_39 (by decide) ?_
        subst hAe
        rw [hQ]
        exact W.iret (v := (-1)) hx hb hr (fun t ht hW => ⟨⟨(-1), (), rfl, (mm_wk mm_km1 (by decide)), by rw [ht]; exact hP, hK.warm hW, hD⟩, hS.F ht⟩) hS.2.2 dX10_firstLeaving_40
      · have q165 := mm_ltL (h := 209) (mm_nle c164) rx3_5_160 w163 (by decide)
        have q166 := mm_ltR (lo := 1) (mm_nle c164) rx3_5_160 w163 (by decide)
        refine lv_aload_n hx hb dX10_firstLeaving_13 rfl (lv_at hl 1 rfl) ?_
        refine lv_iload_n hx hb dX10_firstLeaving_14 rfl (lv_at hl 2 rfl) ?_
        refine lv_iload_n hx hb dX10_firstLeaving_15 rfl (lv_at hl 3 rfl) ?_
        refine lv_iload hx hb dX10_firstLeaving_16 (lv_at hl 0 rfl) ?_
        refine lv_iadd hx hb dX10_firstLeaving_18 ?_
        refine lv_topi (fun v167 ev167 => ?_)
        have rv167 : mm_rg v167 0 1000000210 := mm_add ev167 h1 q165 (by decide) (by decide)
        have tv167 := mm_addE ev167 h1 q165 (by decide)
        refine lv_iload_n hx hb dX10_firstLeaving_19 rfl (lv_at hl 4 rfl) ?_
        refine mm_finir (va_runV (As := [.int i_0, .int v167, .int i_2]) (rest := []) ⟨hx, hb, hml, hown, hts⟩ (K374_X10_leaving l G cy H.size a_0 i_0 v167 i_2 a_1 a_2 i_4 i_5 i_6 i_7 i_8 i_9 i_10 i_11 a_3 a_4 a_5 a_6 a_7 a_8 a_9 a_10 a_11 a_12 f_0 f_1 f_2 f_3 f_4 a_13 a_14 a_15 a_16 a_17 i_12 i_13 i_14 f_5 a_18 a_19 i_15 i_16 i_17 f_6 a_20 a_21 i_18 i_19 i_20 f_7 h0 (mm_wk rv167 (by decide)) h2 h3 h4 h5 h6 h7 h8 h9 h10 h11 h12 h13 h14 h15) (cwV 3 hts (mm_gV mm_w906 mm_w830 mm_w831 mm_w23 mm_w832) rfl rfl rfl hd_X10_leaving ⟨by rw [hRf]; exact Nat.le_of_ble_eq_true rfl, by rw [hRl]; exact Nat.le_of_ble_eq_true rfl⟩) (mm_preV hK hZ hS hA hP hD [0, 1, 2, 3, 4, 5, 6, 7, 8, 9, 10, 11, 12, 13] rfl rfl 0 rfl rfl rfl) rfl rfl hl.1 rfl (lv_room (Nat.le_of_ble_eq_true rfl)) dX10_firstLeaving_20 ⟨by rw [hRc]; exact Nat.le_of_ble_eq_true rfl, by rw [hRs]; exact Nat.le_of_ble_eq_true rfl⟩) hP hD hS hA [0, 1, 2, 3, 4, 5, 6, 7, 8, 9, 10, 11, 12, 13] rfl (fun _ => rfl) ?_
        clear hP hD hS
        clear H locs
        intro v168 _u H locs hw hP hD hS
        refine lv_iload hx hb dX10_firstLeaving_23 (lv_at hl 5 rfl) ?_
        refine lv_icmp_ne (tgt := 33) hx hb dX10_firstLeaving_25 (by decide) (fun c169 => ?_) (fun c169 => ?_)
        · obtain ⟨v170, ev170⟩ : ∃ y : Int32, y = x3_5_160 + 1 := ⟨_, rfl⟩
          refine lv_iinc (v := v170) (lv' := [(5, .int v170), (0, .ref a_0), (1, .int i_0), (2, .int i_1), (3, .int i_2), (4, .int i_3)]) hx hb dX10_firstLeaving_33 hl (k := 0) rfl (by rw [ev170]; rfl) (by decide) rfl ?_
          clear hl
          clear ls
          intro ls hl
          have rv170 : mm_rg v170 1 210 := mm_add ev170 q165 mm_k1 (by decide) (by decide)
          have tv170 := mm_addEc ev170 q165 mm_k1 (by decide) (k := 1) (by decide)
          refine lv_goto (tgt := 3) hx hb dX10_firstLeaving_36 (by decide) ?_
          exact ih3 v170 (mm_wk rv170 (by decide)) (mm_mu hm3 tv170 (by decide) (rv170).2 (by decide)) H locs hP hD hS ls (lv_sub hl [0, 1, 2, 3, 4, 5] rfl)
        · refine lv_iload_n hx hb dX10_firstLeaving_28 rfl (lv_at hl 3 rfl) ?_
          refine lv_iload hx hb dX10_firstLeaving_29 (lv_at hl 0 rfl) ?_
          refine lv_iadd hx hb dX10_firstLeaving_31 ?_
          refine lv_topi (fun v171 ev171 => ?_)
          have rv171 : mm_rg v171 0 1000000210 := mm_add ev171 h1 q165 (by decide) (by decide)
          have tv171 := mm_addE ev171 h1 q165 (by decide)
          subst hAe
          rw [hQ]
          exact W.iret (v := v171) hx hb hr (fun t ht hW => ⟨⟨v171, (), rfl, (mm_wk rv171 (by decide)), by rw [ht]; exact hP, hK.warm hW, hD⟩, hS.F ht⟩) hS.2.2 dX10_firstLeaving_32
  exact L3_160 _ 0 (mm_wk mm_k0 (by decide)) (Nat.lt_succ_self _) H locs hP hD hS ls (lv_sub hl [0, 1, 2, 3, 4, 5] rfl)

set_option maxHeartbeats 4000000 in
set_option maxRecDepth 100000 in
theorem K381_X11_again (l : Launch) (G : va_G) (cy : Nat → ClassId) (sz : Nat) (a_0 : Nat) (i_0 : Int32) (i_1 : Int32) (i_2 : Int32) (a_1 : Nat) (a_2 : Nat) (a_3 : Nat) (a_4 : Nat) (a_5 : Nat) (a_6 : Nat) (a_7 : Nat) (a_8 : Nat) (a_9 : Nat) (a_10 : Nat) (a_11 : Nat) (a_12 : Nat) (a_13 : Nat) (i_3 : Int32) (i_4 : Int32) (i_5 : Int32) (i_6 : Int32) (i_7 : Int32) (i_8 : Int32) (i_9 : Int32) (i_10 : Int32) (a_14 : Nat) (a_15 : Nat) (a_16 : Nat) (a_17 : Nat) (a_18 : Nat) (a_19 : Nat) (a_20 : Nat) (a_21 : Nat) (a_22 : Nat) (a_23 : Nat) (f_0 : Nat → Int32) (f_1 : Nat → Int32) (f_2 : Nat → Int32) (f_3 : Nat → Int32) (f_4 : Nat → Int32) (a_24 : Nat) (a_25 : Nat) (a_26 : Nat) (a_27 : Nat) (a_28 : Nat) (i_11 : Int32) (i_12 : Int32) (i_13 : Int32) (f_5 : Nat → Int32) (a_29 : Nat) (a_30 : Nat) (i_14 : Int32) (i_15 : Int32) (i_16 : Int32) (f_6 : Nat → Int32) (a_31 : Nat) (a_32 : Nat) (i_17 : Int32) (i_18 : Int32) (i_19 : Int32) (f_7 : Nat → Int32) (h0 : mm_rg i_6 0 99) (h1 : mm_rg i_7 0 9) (h2 : mm_rg i_8 0 3) (h3 : mm_rg i_9 0 6) (h4 : mm_ar f_0 (-1) 4) (h5 : mm_ar f_1 0 99) (h6 : mm_ar f_2 0 8) (h7 : mm_ar f_3 0 9) (h8 : mm_ar f_4 0 9) (h9 : mm_rg i_13 (-2147483648) 210) (h10 : mm_ar f_5 0 9) (h11 : mm_rg i_16 (-2147483648) 210) (h12 : mm_ar f_6 0 9) (h13 : mm_rg i_19 (-2147483648) 210) (h14 : mm_ar f_7 0 9)  : mm_CI l yX11_again (mm_ws yX11_again cX11_again 4 (some .int)) ({ frames := 5, cells := 0, slots := 0, locals := 136 } : Room) G cy sz [(a_0, .inr (11, [.ref a_1, .ref a_2, .ref a_3, .ref a_4, .ref a_5, .ref a_6, .ref a_7, .ref a_8, .ref a_9, .ref a_10, .ref a_11])), (a_3, .inr (10, [.ref a_12, .ref a_13])), (a_12, .inr (0, [.int i_3, .int i_4, .int i_5, .int i_6, .int i_7, .int i_8, .int i_9, .int i_10, .ref a_14, .ref a_15, .ref a_16, .ref a_17, .ref a_18, .ref a_19, .ref a_20, .ref a_21, .ref a_22, .ref a_23])), (a_14, .inl (cy 1, 9, .inl f_0)), (a_15, .inl (cy 1, 9, .inl f_1)), (a_18, .inl (cy 1, 6, .inl f_2)), (a_19, .inl (cy 1, 48, .inl f_3)), (a_20, .inl (cy 1, 30, .inl f_4)), (a_13, .inl (cy 5, 3, .inr (.inr (.inr (.inr (va_up (va_up (va_up (fun _ => none) 0 (some a_24)) 1 (some a_25)) 2 (some a_26))))))), (a_24, .inr (1, [.ref a_27, .ref a_28, .int i_11, .int i_12, .int i_13])), (a_27, .inl (cy 1, 2100, .inl f_5)), (a_25, .inr (1, [.ref a_29, .ref a_30, .int i_14, .int i_15, .int i_16])), (a_29, .inl (cy 1, 2100, .inl f_6)), (a_26, .inr (1, [.ref a_31, .ref a_32, .int i_17, .int i_18, .int i_19])), (a_31, .inl (cy 1, 2100, .inl f_7))] [.ref a_0, .int i_0, .int i_1, .int i_2] (fun u : Unit => [(a_0, .inr (11, [.ref a_1, .ref a_2, .ref a_3, .ref a_4, .ref a_5, .ref a_6, .ref a_7, .ref a_8, .ref a_9, .ref a_10, .ref a_11])), (a_3, .inr (10, [.ref a_12, .ref a_13])), (a_12, .inr (0, [.int i_3, .int i_4, .int i_5, .int i_6, .int i_7, .int i_8, .int i_9, .int i_10, .ref a_14, .ref a_15, .ref a_16, .ref a_17, .ref a_18, .ref a_19, .ref a_20, .ref a_21, .ref a_22, .ref a_23])), (a_14, .inl (cy 1, 9, .inl f_0)), (a_15, .inl (cy 1, 9, .inl f_1)), (a_18, .inl (cy 1, 6, .inl f_2)), (a_19, .inl (cy 1, 48, .inl f_3)), (a_20, .inl (cy 1, 30, .inl f_4)), (a_13, .inl (cy 5, 3, .inr (.inr (.inr (.inr (va_up (va_up (va_up (fun _ => none) 0 (some a_24)) 1 (some a_25)) 2 (some a_26))))))), (a_24, .inr (1, [.ref a_27, .ref a_28, .int i_11, .int i_12, .int i_13])), (a_27, .inl (cy 1, 2100, .inl f_5)), (a_25, .inr (1, [.ref a_29, .ref a_30, .int i_14, .int i_15, .int i_16])), (a_29, .inl (cy 1, 2100, .inl f_6)), (a_26, .inr (1, [.ref a_31, .ref a_32, .int i_17, .int i_18, .int i_19])), (a_31, .inl (cy 1, 2100, .inl f_7))]) (fun (r : Int32) (u : Unit) => mm_rg r (-2) 1000000210) 0 0 := by
  refine mm_begin (lv := [(0, .ref a_0), (1, .int i_0), (2, .int i_1), (3, .int i_2)]) (by decide) (Nat.le_of_ble_eq_true rfl) rfl ?_
  intro p e s m below meth c A ls R args Q H locs hRe hQ hAe hx hb hr hlocks hml hown hnm hts hsz hA hS hP hK hD hZ hl
  have hRf : R.frames = 5 := by rw [hRe]
  have hRl : R.locals = 136 := by rw [hRe]
  have hRc : R.cells = 0 := by rw [hRe]
  have hRs : R.slots = 0 := by rw [hRe]
  refine lv_aload_n hx hb dX11_again_0 rfl (lv_at hl 0 rfl) ?_
  refine lv_iload_n hx hb dX11_again_1 rfl (lv_at hl 1 rfl) ?_
  refine lv_iload_n hx hb dX11_again_2 rfl (lv_at hl 2 rfl) ?_
  refine lv_iload_n hx hb dX11_again_3 rfl (lv_at hl 3 rfl) ?_
  refine mm_finir (va_runV (As := [.int i_0, .int i_1, .int i_2]) (rest := []) ⟨hx, hb, hml, hown, hts⟩ (K371_X11_isReading l G cy H.size a_0 i_0 i_1 i_2 a_1 a_2 a_3 a_4 a_5 a_6 a_7 a_8 a_9 a_10 a_11 a_12 a_13 i_3 i_4 i_5 i_6 i_7 i_8 i_9 i_10 a_14 a_15 a_16 a_17 a_18 a_19 a_20 a_21 a_22 a_23 h2 h3) (cwV 3 hts (mm_gV mm_w825 mm_w826 mm_w827 mm_w2 mm_w828) rfl rfl rfl hd_X11_isReading ⟨by rw [hRf]; exact Nat.le_of_ble_eq_true rfl, by rw [hRl]; exact Nat.le_of_ble_eq_true rfl⟩) (mm_preV hK hZ hS hA hP hD [0, 1, 2] rfl rfl 0 rfl rfl rfl) rfl rfl hl.1 rfl (lv_room (Nat.le_of_ble_eq_true rfl)) dX11_again_4 ⟨by rw [hRc]; exact Nat.le_of_ble_eq_true rfl, by rw [hRs]; exact Nat.le_of_ble_eq_true rfl⟩) hP hD hS hA [0, 1, 2] rfl (fun _ => rfl) ?_
  clear hP hD hS
  clear H locs
  intro v1 _u H locs hw hP hD hS
  rcases hw with rfl | ⟨rfl, w2, w3, w4⟩
  · refine lv_if_ne (tgt := 13) hx hb dX11_again_7 (by decide) (fun c5 => ?_) (fun c5 => ?_)
    · have q6 := mm_neL (lo := 1) (mm_ne c5) mm_k0 mm_k0 (by decide) (by decide)
      exact mm_no q6 (by decide)
    · refine lv_bipush (v := (-2)) hx hb dX11_again_10 (by decide) ?_
      subst hAe
      rw [hQ]
      exact W.iret (v := (-2)) hx hb hr (fun t ht hW => ⟨⟨(-2), (), rfl, (mm_wk mm_km2 (by decide)), by rw [ht]; exact hP, hK.warm hW, hD⟩, hS.F ht⟩) hS.2.2 dX11_again_12
  · refine lv_if_ne (tgt := 13) hx hb dX11_again_7 (by decide) (fun c7 => ?_) (fun c7 => ?_)
    · refine lv_aload_n hx hb dX11_again_13 rfl (lv_at hl 0 rfl) ?_
      refine va_get (D := G) (ci := 11) (v := .ref a_3) (C := RX11) (T := TX11) (N := 11) hx hb hts (mm_i inlX11) hown hK.1 hP 0 rfl rfl 2 (by decide) (mm_h hts mm_w24) (fun _ h9 => h9) rfl dX11_again_14 ?_
      refine lv_iload_n hx hb dX11_again_17 rfl (lv_at hl 1 rfl) ?_
      refine lv_iload_n hx hb dX11_again_18 rfl (lv_at hl 2 rfl) ?_
      refine lv_iconst (v := 1) hx hb dX11_again_19 (by decide) ?_
      refine lv_iadd hx hb dX11_again_20 ?_
      refine lv_topi (fun v8 ev8 => ?_)
      have rv8 : mm_rg v8 1 1000000001 := mm_add ev8 w3 mm_k1 (by decide) (by decide)
      have tv8 := mm_addEc ev8 w3 mm_k1 (by decide) (k := 1) (by decide)
      refine lv_iload_n hx hb dX11_again_21 rfl (lv_at hl 3 rfl) ?_
      refine lv_aload_n hx hb dX11_again_22 rfl (lv_at hl 0 rfl) ?_
      refine va_get (D := G) (ci := 11) (v := .ref a_3) (C := RX11) (T := TX11) (N := 11) hx hb hts (mm_i inlX11) hown hK.1 hP 0 rfl rfl 2 (by decide) (mm_h hts mm_w24) (fun _ h9 => h9) rfl dX11_again_23 ?_
      refine lv_iload_n hx hb dX11_again_26 rfl (lv_at hl 1 rfl) ?_
      refine lv_iload_n hx hb dX11_again_27 rfl (lv_at hl 2 rfl) ?_
      refine lv_iload_n hx hb dX11_again_28 rfl (lv_at hl 3 rfl) ?_
      refine mm_finir (va_runV (As := [.int i_0, .int i_1, .int i_2]) (rest := [.int i_2, .int v8, .int i_0, .ref a_3]) ⟨hx, hb, hml, hown, hts⟩ (K374_X10_leaving l G cy H.size a_3 i_0 i_1 i_2 a_12 a_13 i_3 i_4 i_5 i_6 i_7 i_8 i_9 i_10 a_14 a_15 a_16 a_17 a_18 a_19 a_20 a_21 a_22 a_23 f_0 f_1 f_2 f_3 f_4 a_24 a_25 a_26 a_27 a_28 i_11 i_12 i_13 f_5 a_29 a_30 i_14 i_15 i_16 f_6 a_31 a_32 i_17 i_18 i_19 f_7 w2 (mm_wk w3 (by decide)) w4 h0 h1 h4 h5 h6 h7 h8 h9 h10 h11 h12 h13 h14) (cwV 3 hts (mm_gV mm_w829 mm_w830 mm_w831 mm_w23 mm_w832) rfl rfl rfl hd_X10_leaving ⟨by rw [hRf]; exact Nat.le_of_ble_eq_true rfl, by rw [hRl]; exact Nat.le_of_ble_eq_true rfl⟩) (mm_preV hK hZ hS hA hP hD [1, 2, 3, 4, 5, 6, 7, 8, 9, 10, 11, 12, 13, 14] rfl rfl 1 rfl rfl rfl) rfl rfl hl.1 rfl (lv_room (Nat.le_of_ble_eq_true rfl)) dX11_again_29 ⟨by rw [hRc]; exact Nat.le_of_ble_eq_true rfl, by rw [hRs]; exact Nat.le_of_ble_eq_true rfl⟩) hP hD hS hA [1, 2, 3, 4, 5, 6, 7, 8, 9, 10, 11, 12, 13, 14] rfl (fun _ => rfl) ?_
      clear hP hD hS
      clear H locs
      intro v9 _u H locs hw hP hD hS
      refine mm_finir (va_runV (As := [.int i_0, .int v8, .int i_2, .int v9]) (rest := []) ⟨hx, hb, hml, hown, hts⟩ (K380_X10_firstLeaving l G cy H.size a_3 i_0 v8 i_2 v9 a_12 a_13 i_3 i_4 i_5 i_6 i_7 i_8 i_9 i_10 a_14 a_15 a_16 a_17 a_18 a_19 a_20 a_21 a_22 a_23 f_0 f_1 f_2 f_3 f_4 a_24 a_25 a_26 a_27 a_28 i_11 i_12 i_13 f_5 a_29 a_30 i_14 i_15 i_16 f_6 a_31 a_32 i_17 i_18 i_19 f_7 w2 (mm_wk rv8 (by decide)) w4 h0 h1 h4 h5 h6 h7 h8 h9 h10 h11 h12 h13 h14) (cwV 4 hts (mm_gV mm_w902 mm_w903 mm_w904 mm_w23 mm_w905) rfl rfl rfl hd_X10_firstLeaving ⟨by rw [hRf]; exact Nat.le_of_ble_eq_true rfl, by rw [hRl]; exact Nat.le_of_ble_eq_true rfl⟩) (mm_preV hK hZ hS hA hP hD [1, 2, 3, 4, 5, 6, 7, 8, 9, 10, 11, 12, 13, 14] rfl rfl 1 rfl rfl rfl) rfl rfl hl.1 rfl (lv_room (Nat.le_of_ble_eq_true rfl)) dX11_again_32 ⟨by rw [hRc]; exact Nat.le_of_ble_eq_true rfl, by rw [hRs]; exact Nat.le_of_ble_eq_true rfl⟩) hP hD hS hA [1, 2, 3, 4, 5, 6, 7, 8, 9, 10, 11, 12, 13, 14] rfl (fun _ => rfl) ?_
      clear hP hD hS
      clear H locs
      intro v10 _u H locs hw hP hD hS
      have w11 := hw
      subst hAe
      rw [hQ]
      exact W.iret (v := v10) hx hb hr (fun t ht hW => ⟨⟨v10, (), rfl, (mm_wk w11 (by decide)), by rw [ht]; exact hP, hK.warm hW, hD⟩, hS.F ht⟩) hS.2.2 dX11_again_35
    · exact mm_eqN c7.symm mm_k0 mm_k1 (by decide)

set_option maxHeartbeats 4000000 in
set_option maxRecDepth 100000 in
theorem K382_X11_isStock (l : Launch) (G : va_G) (cy : Nat → ClassId) (sz : Nat) (i_0 : Int32)   : mm_CI l yX11_isStock (mm_ws yX11_isStock cX11_isStock 1 (some .boolean)) ({ frames := 0, cells := 0, slots := 0, locals := 0 } : Room) G cy sz [] [.int i_0] (fun u : Unit => []) (fun (r : Int32) (u : Unit) => ((0 = r ∧ mm_rg i_0 (-2147483648) 2147483647) ∨ (1 = r ∧ mm_rg i_0 0 9999))) 0 0 := by
  refine mm_begin (lv := [(0, .int i_0)]) (by decide) (Nat.le_of_ble_eq_true rfl) rfl ?_
  intro p e s m below meth c A ls R args Q H locs hRe hQ hAe hx hb hr hlocks hml hown hnm hts hsz hA hS hP hK hD hZ hl
  have hRf : R.frames = 0 := by rw [hRe]
  have hRl : R.locals = 0 := by rw [hRe]
  have hRc : R.cells = 0 := by rw [hRe]
  have hRs : R.slots = 0 := by rw [hRe]
  refine lv_iload_n hx hb dX11_isStock_0 rfl (lv_at hl 0 rfl) ?_
  refine lv_if_lt (tgt := 15) hx hb dX11_isStock_1 (by decide) (fun c1 => ?_) (fun c1 => ?_)
  · have q2 := mm_ltL (h := (-1)) (mm_lt c1) (mm_top i_0) mm_k0 (by decide)
    refine lv_iconst (v := 0) hx hb dX11_isStock_15 (by decide) ?_
    subst hAe
    rw [hQ]
    exact W.zret (v := 0) hx hb hr rfl (fun t ht hW => ⟨⟨0, (), rfl, (Or.inl ⟨rfl, (mm_wk q2 (by decide))⟩), by rw [ht]; exact hP, hK.warm hW, hD⟩, hS.F ht⟩) hS.2.2 dX11_isStock_16
  · have q3 := mm_leR (mm_nlt c1) mm_k0 (mm_top i_0)
    refine lv_iload_n hx hb dX11_isStock_4 rfl (lv_at hl 0 rfl) ?_
    refine lv_sipush (v := 9999) hx hb dX11_isStock_5 (by decide) ?_
    refine lv_icmp_gt (tgt := 15) hx hb dX11_isStock_8 (by decide) (fun c4 => ?_) (fun c4 => ?_)
    · have q5 := mm_ltR (lo := 10000) (mm_lt c4) mm_k9999 q3 (by decide)
      refine lv_iconst (v := 0) hx hb dX11_isStock_15 (by decide) ?_
      subst hAe
      rw [hQ]
      exact W.zret (v := 0) hx hb hr rfl (fun t ht hW => ⟨⟨0, (), rfl, (Or.inl ⟨rfl, (mm_wk q5 (by decide))⟩), by rw [ht]; exact hP, hK.warm hW, hD⟩, hS.F ht⟩) hS.2.2 dX11_isStock_16
    · have q6 := mm_leL (mm_nlt c4) q3 mm_k9999
      refine lv_iconst (v := 1) hx hb dX11_isStock_11 (by decide) ?_
      refine lv_goto (tgt := 16) hx hb dX11_isStock_12 (by decide) ?_
      subst hAe
      rw [hQ]
      exact W.zret (v := 1) hx hb hr rfl (fun t ht hW => ⟨⟨1, (), rfl, (Or.inr ⟨rfl, q6⟩), by rw [ht]; exact hP, hK.warm hW, hD⟩, hS.F ht⟩) hS.2.2 dX11_isStock_16

set_option maxHeartbeats 4000000 in
set_option maxRecDepth 100000 in
theorem K383_X11_first (l : Launch) (G : va_G) (cy : Nat → ClassId) (sz : Nat) (a_0 : Nat) (i_0 : Int32) (i_1 : Int32) (i_2 : Int32) (i_3 : Int32) (a_1 : Nat) (a_2 : Nat) (a_3 : Nat) (a_4 : Nat) (a_5 : Nat) (a_6 : Nat) (a_7 : Nat) (a_8 : Nat) (a_9 : Nat) (a_10 : Nat) (a_11 : Nat) (a_12 : Nat) (a_13 : Nat) (i_4 : Int32) (i_5 : Int32) (i_6 : Int32) (i_7 : Int32) (i_8 : Int32) (i_9 : Int32) (i_10 : Int32) (i_11 : Int32) (a_14 : Nat) (a_15 : Nat) (a_16 : Nat) (a_17 : Nat) (a_18 : Nat) (a_19 : Nat) (a_20 : Nat) (a_21 : Nat) (a_22 : Nat) (a_23 : Nat) (f_0 : Nat → Int32) (f_1 : Nat → Int32) (f_2 : Nat → Int32) (f_3 : Nat → Int32) (f_4 : Nat → Int32) (a_24 : Nat) (a_25 : Nat) (a_26 : Nat) (a_27 : Nat) (a_28 : Nat) (i_12 : Int32) (i_13 : Int32) (i_14 : Int32) (f_5 : Nat → Int32) (a_29 : Nat) (a_30 : Nat) (i_15 : Int32) (i_16 : Int32) (i_17 : Int32) (f_6 : Nat → Int32) (a_31 : Nat) (a_32 : Nat) (i_18 : Int32) (i_19 : Int32) (i_20 : Int32) (f_7 : Nat → Int32) (h0 : mm_rg i_7 0 99) (h1 : mm_rg i_8 0 9) (h2 : mm_rg i_9 0 3) (h3 : mm_rg i_10 0 6) (h4 : mm_ar f_0 (-1) 4) (h5 : mm_ar f_1 0 99) (h6 : mm_ar f_2 0 8) (h7 : mm_ar f_3 0 9) (h8 : mm_ar f_4 0 9) (h9 : mm_rg i_14 (-2147483648) 210) (h10 : mm_ar f_5 0 9) (h11 : mm_rg i_17 (-2147483648) 210) (h12 : mm_ar f_6 0 9) (h13 : mm_rg i_20 (-2147483648) 210) (h14 : mm_ar f_7 0 9)  : mm_CI l yX11_first (mm_ws yX11_first cX11_first 5 (some .int)) ({ frames := 5, cells := 0, slots := 0, locals := 136 } : Room) G cy sz [(a_0, .inr (11, [.ref a_1, .ref a_2, .ref a_3, .ref a_4, .ref a_5, .ref a_6, .ref a_7, .ref a_8, .ref a_9, .ref a_10, .ref a_11])), (a_3, .inr (10, [.ref a_12, .ref a_13])), (a_12, .inr (0, [.int i_4, .int i_5, .int i_6, .int i_7, .int i_8, .int i_9, .int i_10, .int i_11, .ref a_14, .ref a_15, .ref a_16, .ref a_17, .ref a_18, .ref a_19, .ref a_20, .ref a_21, .ref a_22, .ref a_23])), (a_14, .inl (cy 1, 9, .inl f_0)), (a_15, .inl (cy 1, 9, .inl f_1)), (a_18, .inl (cy 1, 6, .inl f_2)), (a_19, .inl (cy 1, 48, .inl f_3)), (a_20, .inl (cy 1, 30, .inl f_4)), (a_13, .inl (cy 5, 3, .inr (.inr (.inr (.inr (va_up (va_up (va_up (fun _ => none) 0 (some a_24)) 1 (some a_25)) 2 (some a_26))))))), (a_24, .inr (1, [.ref a_27, .ref a_28, .int i_12, .int i_13, .int i_14])), (a_27, .inl (cy 1, 2100, .inl f_5)), (a_25, .inr (1, [.ref a_29, .ref a_30, .int i_15, .int i_16, .int i_17])), (a_29, .inl (cy 1, 2100, .inl f_6)), (a_26, .inr (1, [.ref a_31, .ref a_32, .int i_18, .int i_19, .int i_20])), (a_31, .inl (cy 1, 2100, .inl f_7))] [.ref a_0, .int i_0, .int i_1, .int i_2, .int i_3] (fun u : Unit => [(a_0, .inr (11, [.ref a_1, .ref a_2, .ref a_3, .ref a_4, .ref a_5, .ref a_6, .ref a_7, .ref a_8, .ref a_9, .ref a_10, .ref a_11])), (a_3, .inr (10, [.ref a_12, .ref a_13])), (a_12, .inr (0, [.int i_4, .int i_5, .int i_6, .int i_7, .int i_8, .int i_9, .int i_10, .int i_11, .ref a_14, .ref a_15, .ref a_16, .ref a_17, .ref a_18, .ref a_19, .ref a_20, .ref a_21, .ref a_22, .ref a_23])), (a_14, .inl (cy 1, 9, .inl f_0)), (a_15, .inl (cy 1, 9, .inl f_1)), (a_18, .inl (cy 1, 6, .inl f_2)), (a_19, .inl (cy 1, 48, .inl f_3)), (a_20, .inl (cy 1, 30, .inl f_4)), (a_13, .inl (cy 5, 3, .inr (.inr (.inr (.inr (va_up (va_up (va_up (fun _ => none) 0 (some a_24)) 1 (some a_25)) 2 (some a_26))))))), (a_24, .inr (1, [.ref a_27, .ref a_28, .int i_12, .int i_13, .int i_14])), (a_27, .inl (cy 1, 2100, .inl f_5)), (a_25, .inr (1, [.ref a_29, .ref a_30, .int i_15, .int i_16, .int i_17])), (a_29, .inl (cy 1, 2100, .inl f_6)), (a_26, .inr (1, [.ref a_31, .ref a_32, .int i_18, .int i_19, .int i_20])), (a_31, .inl (cy 1, 2100, .inl f_7))]) (fun (r : Int32) (u : Unit) => mm_rg r (-2) 1000000210) 0 0 := by
  refine mm_begin (lv := [(0, .ref a_0), (1, .int i_0), (2, .int i_1), (3, .int i_2), (4, .int i_3)]) (by decide) (Nat.le_of_ble_eq_true rfl) rfl ?_
  intro p e s m below meth c A ls R args Q H locs hRe hQ hAe hx hb hr hlocks hml hown hnm hts hsz hA hS hP hK hD hZ hl
  have hRf : R.frames = 5 := by rw [hRe]
  have hRl : R.locals = 136 := by rw [hRe]
  have hRc : R.cells = 0 := by rw [hRe]
  have hRs : R.slots = 0 := by rw [hRe]
  refine lv_aload_n hx hb dX11_first_0 rfl (lv_at hl 0 rfl) ?_
  refine lv_iload_n hx hb dX11_first_1 rfl (lv_at hl 1 rfl) ?_
  refine lv_iload_n hx hb dX11_first_2 rfl (lv_at hl 2 rfl) ?_
  refine lv_iload_n hx hb dX11_first_3 rfl (lv_at hl 3 rfl) ?_
  refine mm_finir (va_runV (As := [.int i_0, .int i_1, .int i_2]) (rest := []) ⟨hx, hb, hml, hown, hts⟩ (K371_X11_isReading l G cy H.size a_0 i_0 i_1 i_2 a_1 a_2 a_3 a_4 a_5 a_6 a_7 a_8 a_9 a_10 a_11 a_12 a_13 i_4 i_5 i_6 i_7 i_8 i_9 i_10 i_11 a_14 a_15 a_16 a_17 a_18 a_19 a_20 a_21 a_22 a_23 h2 h3) (cwV 3 hts (mm_gV mm_w825 mm_w826 mm_w827 mm_w2 mm_w828) rfl rfl rfl hd_X11_isReading ⟨by rw [hRf]; exact Nat.le_of_ble_eq_true rfl, by rw [hRl]; exact Nat.le_of_ble_eq_true rfl⟩) (mm_preV hK hZ hS hA hP hD [0, 1, 2] rfl rfl 0 rfl rfl rfl) rfl rfl hl.1 rfl (lv_room (Nat.le_of_ble_eq_true rfl)) dX11_first_4 ⟨by rw [hRc]; exact Nat.le_of_ble_eq_true rfl, by rw [hRs]; exact Nat.le_of_ble_eq_true rfl⟩) hP hD hS hA [0, 1, 2] rfl (fun _ => rfl) ?_
  clear hP hD hS
  clear H locs
  intro v1 _u H locs hw hP hD hS
  rcases hw with rfl | ⟨rfl, w2, w3, w4⟩
  · refine lv_if_eq (tgt := 18) hx hb dX11_first_7 (by decide) (fun c5 => ?_) (fun c5 => ?_)
    · refine lv_bipush (v := (-2)) hx hb dX11_first_18 (by decide) ?_
      subst hAe
      rw [hQ]
      exact W.iret (v := (-2)) hx hb hr (fun t ht hW => ⟨⟨(-2), (), rfl, (mm_wk mm_km2 (by decide)), by rw [ht]; exact hP, hK.warm hW, hD⟩, hS.F ht⟩) hS.2.2 dX11_first_20
    · have q6 := mm_neL (lo := 1) (mm_ne c5) mm_k0 mm_k0 (by decide) (by decide)
      exact mm_no q6 (by decide)
  · refine lv_if_eq (tgt := 18) hx hb dX11_first_7 (by decide) (fun c7 => ?_) (fun c7 => ?_)
    · exact mm_eqN c7.symm mm_k0 mm_k1 (by decide)
    · refine lv_iload hx hb dX11_first_10 (lv_at hl 4 rfl) ?_
      refine mm_finir (va_runS (As := [.int i_3]) (rest := []) ⟨hx, hb, hml, hown, hts⟩ (K382_X11_isStock l G cy H.size i_3 ) (va_cwS 1 hts (mm_gS mm_w915 mm_w916 mm_w2 mm_w917) rfl rfl rfl hs_X11_isStock ⟨by rw [hRf]; exact Nat.le_of_ble_eq_true rfl, by rw [hRl]; exact Nat.le_of_ble_eq_true rfl⟩) (mm_preS hK hZ hS hA hP hD [] rfl rfl) rfl rfl hl.1 rfl (lv_room (Nat.le_of_ble_eq_true rfl)) dX11_first_12 ⟨by rw [hRc]; exact Nat.le_of_ble_eq_true rfl, by rw [hRs]; exact Nat.le_of_ble_eq_true rfl⟩) hP hD hS hA [] rfl (fun _ => rfl) ?_
      clear hP hD hS
      clear H locs
      intro v8 _u H locs hw hP hD hS
      rcases hw with ⟨rfl, w9⟩ | ⟨rfl, w10⟩
      · refine lv_if_ne (tgt := 21) hx hb dX11_first_15 (by decide) (fun c11 => ?_) (fun c11 => ?_)
        · have q12 := mm_neL (lo := 1) (mm_ne c11) mm_k0 mm_k0 (by decide) (by decide)
          exact mm_no q12 (by decide)
        · refine lv_bipush (v := (-2)) hx hb dX11_first_18 (by decide) ?_
          subst hAe
          rw [hQ]
          exact W.iret (v := (-2)) hx hb hr (fun t ht hW => ⟨⟨(-2), (), rfl, (mm_wk mm_km2 (by decide)), by rw [ht]; exact hP, hK.warm hW, hD⟩, hS.F ht⟩) hS.2.2 dX11_first_20
      · refine lv_if_ne (tgt := 21) hx hb dX11_first_15 (by decide) (fun c13 => ?_) (fun c13 => ?_)
        · refine lv_aload_n hx hb dX11_first_21 rfl (lv_at hl 0 rfl) ?_
          refine va_get (D := G) (ci := 11) (v := .ref a_3) (C := RX11) (T := TX11) (N := 11) hx hb hts (mm_i inlX11) hown hK.1 hP 0 rfl rfl 2 (by decide) (mm_h hts mm_w24) (fun _ h9 => h9) rfl dX11_first_22 ?_
          refine lv_iload_n hx hb dX11_first_25 rfl (lv_at hl 1 rfl) ?_
          refine lv_iload_n hx hb dX11_first_26 rfl (lv_at hl 2 rfl) ?_
          refine lv_iload_n hx hb dX11_first_27 rfl (lv_at hl 3 rfl) ?_
          refine lv_iload hx hb dX11_first_28 (lv_at hl 4 rfl) ?_
          refine mm_finir (va_runV (As := [.int i_0, .int i_1, .int i_2, .int i_3]) (rest := []) ⟨hx, hb, hml, hown, hts⟩ (K380_X10_firstLeaving l G cy H.size a_3 i_0 i_1 i_2 i_3 a_12 a_13 i_4 i_5 i_6 i_7 i_8 i_9 i_10 i_11 a_14 a_15 a_16 a_17 a_18 a_19 a_20 a_21 a_22 a_23 f_0 f_1 f_2 f_3 f_4 a_24 a_25 a_26 a_27 a_28 i_12 i_13 i_14 f_5 a_29 a_30 i_15 i_16 i_17 f_6 a_31 a_32 i_18 i_19 i_20 f_7 w2 (mm_wk w3 (by decide)) w4 h0 h1 h4 h5 h6 h7 h8 h9 h10 h11 h12 h13 h14) (cwV 4 hts (mm_gV mm_w902 mm_w903 mm_w904 mm_w23 mm_w905) rfl rfl rfl hd_X10_firstLeaving ⟨by rw [hRf]; exact Nat.le_of_ble_eq_true rfl, by rw [hRl]; exact Nat.le_of_ble_eq_true rfl⟩) (mm_preV hK hZ hS hA hP hD [1, 2, 3, 4, 5, 6, 7, 8, 9, 10, 11, 12, 13, 14] rfl rfl 1 rfl rfl rfl) rfl rfl hl.1 rfl (lv_room (Nat.le_of_ble_eq_true rfl)) dX11_first_30 ⟨by rw [hRc]; exact Nat.le_of_ble_eq_true rfl, by rw [hRs]; exact Nat.le_of_ble_eq_true rfl⟩) hP hD hS hA [1, 2, 3, 4, 5, 6, 7, 8, 9, 10, 11, 12, 13, 14] rfl (fun _ => rfl) ?_
          clear hP hD hS
          clear H locs
          intro v14 _u H locs hw hP hD hS
          have w15 := hw
          subst hAe
          rw [hQ]
          exact W.iret (v := v14) hx hb hr (fun t ht hW => ⟨⟨v14, (), rfl, (mm_wk w15 (by decide)), by rw [ht]; exact hP, hK.warm hW, hD⟩, hS.F ht⟩) hS.2.2 dX11_first_33
        · exact mm_eqN c13.symm mm_k0 mm_k1 (by decide)

set_option maxHeartbeats 4000000 in
set_option maxRecDepth 100000 in
theorem K384_X10_topDay (l : Launch) (G : va_G) (cy : Nat → ClassId) (sz : Nat) (a_0 : Nat) (i_0 : Int32) (i_1 : Int32) (i_2 : Int32) (i_3 : Int32) (a_1 : Nat) (a_2 : Nat) (i_4 : Int32) (i_5 : Int32) (i_6 : Int32) (i_7 : Int32) (i_8 : Int32) (i_9 : Int32) (i_10 : Int32) (i_11 : Int32) (a_3 : Nat) (a_4 : Nat) (a_5 : Nat) (a_6 : Nat) (a_7 : Nat) (a_8 : Nat) (a_9 : Nat) (a_10 : Nat) (a_11 : Nat) (a_12 : Nat) (f_0 : Nat → Int32) (f_1 : Nat → Int32) (f_2 : Nat → Int32) (f_3 : Nat → Int32) (f_4 : Nat → Int32) (a_13 : Nat) (a_14 : Nat) (a_15 : Nat) (a_16 : Nat) (a_17 : Nat) (i_12 : Int32) (i_13 : Int32) (i_14 : Int32) (f_5 : Nat → Int32) (a_18 : Nat) (a_19 : Nat) (i_15 : Int32) (i_16 : Int32) (i_17 : Int32) (f_6 : Nat → Int32) (a_20 : Nat) (a_21 : Nat) (i_18 : Int32) (i_19 : Int32) (i_20 : Int32) (f_7 : Nat → Int32) (h0 : mm_rg i_0 0 2) (h1 : mm_rg i_1 0 1000000001) (h2 : mm_rg i_2 1 1000) (h3 : mm_rg i_3 0 5) (h4 : mm_rg i_7 0 99) (h5 : mm_rg i_8 0 9) (h6 : mm_ar f_0 (-1) 4) (h7 : mm_ar f_1 0 99) (h8 : mm_ar f_2 0 8) (h9 : mm_ar f_3 0 9) (h10 : mm_ar f_4 0 9) (h11 : mm_rg i_14 (-2147483648) 210) (h12 : mm_ar f_5 0 9) (h13 : mm_rg i_17 (-2147483648) 210) (h14 : mm_ar f_6 0 9) (h15 : mm_rg i_20 (-2147483648) 210) (h16 : mm_ar f_7 0 9)  : mm_CI l yX10_topDay (mm_ws yX10_topDay cX10_topDay 10 (some .int)) ({ frames := 4, cells := 0, slots := 0, locals := 111 } : Room) G cy sz [(a_0, .inr (10, [.ref a_1, .ref a_2])), (a_1, .inr (0, [.int i_4, .int i_5, .int i_6, .int i_7, .int i_8, .int i_9, .int i_10, .int i_11, .ref a_3, .ref a_4, .ref a_5, .ref a_6, .ref a_7, .ref a_8, .ref a_9, .ref a_10, .ref a_11, .ref a_12])), (a_3, .inl (cy 1, 9, .inl f_0)), (a_4, .inl (cy 1, 9, .inl f_1)), (a_7, .inl (cy 1, 6, .inl f_2)), (a_8, .inl (cy 1, 48, .inl f_3)), (a_9, .inl (cy 1, 30, .inl f_4)), (a_2, .inl (cy 5, 3, .inr (.inr (.inr (.inr (va_up (va_up (va_up (fun _ => none) 0 (some a_13)) 1 (some a_14)) 2 (some a_15))))))), (a_13, .inr (1, [.ref a_16, .ref a_17, .int i_12, .int i_13, .int i_14])), (a_16, .inl (cy 1, 2100, .inl f_5)), (a_14, .inr (1, [.ref a_18, .ref a_19, .int i_15, .int i_16, .int i_17])), (a_18, .inl (cy 1, 2100, .inl f_6)), (a_15, .inr (1, [.ref a_20, .ref a_21, .int i_18, .int i_19, .int i_20])), (a_20, .inl (cy 1, 2100, .inl f_7))] [.ref a_0, .int i_0, .int i_1, .int i_2, .int i_3, .int 1] (fun u : Unit => [(a_0, .inr (10, [.ref a_1, .ref a_2])), (a_1, .inr (0, [.int i_4, .int i_5, .int i_6, .int i_7, .int i_8, .int i_9, .int i_10, .int i_11, .ref a_3, .ref a_4, .ref a_5, .ref a_6, .ref a_7, .ref a_8, .ref a_9, .ref a_10, .ref a_11, .ref a_12])), (a_3, .inl (cy 1, 9, .inl f_0)), (a_4, .inl (cy 1, 9, .inl f_1)), (a_7, .inl (cy 1, 6, .inl f_2)), (a_8, .inl (cy 1, 48, .inl f_3)), (a_9, .inl (cy 1, 30, .inl f_4)), (a_2, .inl (cy 5, 3, .inr (.inr (.inr (.inr (va_up (va_up (va_up (fun _ => none) 0 (some a_13)) 1 (some a_14)) 2 (some a_15))))))), (a_13, .inr (1, [.ref a_16, .ref a_17, .int i_12, .int i_13, .int i_14])), (a_16, .inl (cy 1, 2100, .inl f_5)), (a_14, .inr (1, [.ref a_18, .ref a_19, .int i_15, .int i_16, .int i_17])), (a_18, .inl (cy 1, 2100, .inl f_6)), (a_15, .inr (1, [.ref a_20, .ref a_21, .int i_18, .int i_19, .int i_20])), (a_20, .inl (cy 1, 2100, .inl f_7))]) (fun (r : Int32) (u : Unit) => mm_rg r 0 1200000000) 0 0 := by
  refine mm_begin (lv := [(0, .ref a_0), (1, .int i_0), (2, .int i_1), (3, .int i_2), (4, .int i_3), (5, .int 1)]) (by decide) (Nat.le_of_ble_eq_true rfl) rfl ?_
  intro p e s m below meth c A ls R args Q H locs hRe hQ hAe hx hb hr hlocks hml hown hnm hts hsz hA hS hP hK hD hZ hl
  have hRf : R.frames = 4 := by rw [hRe]
  have hRl : R.locals = 111 := by rw [hRe]
  have hRc : R.cells = 0 := by rw [hRe]
  have hRs : R.slots = 0 := by rw [hRe]
  refine lv_iload_n hx hb dX10_topDay_0 rfl (lv_at hl 2 rfl) ?_
  refine lv_istore (lv' := [(6, .int i_1), (0, .ref a_0), (1, .int i_0), (2, .int i_1), (3, .int i_2), (4, .int i_3), (5, .int 1)]) hx hb dX10_topDay_1 hl (by decide) rfl ?_
  clear hl
  clear ls
  intro ls hl
  refine lv_iload hx hb dX10_topDay_3 (lv_at hl 6 rfl) ?_
  refine lv_aload_n hx hb dX10_topDay_5 rfl (lv_at hl 1 rfl) ?_
  refine lv_iload_n hx hb dX10_topDay_6 rfl (lv_at hl 2 rfl) ?_
  refine lv_iload_n hx hb dX10_topDay_7 rfl (lv_at hl 3 rfl) ?_
  refine lv_iload hx hb dX10_topDay_8 (lv_at hl 5 rfl) ?_
  refine mm_finir (va_runV (As := [.int i_0, .int i_1, .int i_3]) (rest := [.int 1]) ⟨hx, hb, hml, hown, hts⟩ (K374_X10_leaving l G cy H.size a_0 i_0 i_1 i_3 a_1 a_2 i_4 i_5 i_6 i_7 i_8 i_9 i_10 i_11 a_3 a_4 a_5 a_6 a_7 a_8 a_9 a_10 a_11 a_12 f_0 f_1 f_2 f_3 f_4 a_13 a_14 a_15 a_16 a_17 i_12 i_13 i_14 f_5 a_18 a_19 i_15 i_16 i_17 f_6 a_20 a_21 i_18 i_19 i_20 f_7 h0 (mm_wk h1 (by decide)) h3 h4 h5 h6 h7 h8 h9 h10 h11 h12 h13 h14 h15 h16) (cwV 3 hts (mm_gV mm_w906 mm_w830 mm_w831 mm_w23 mm_w832) rfl rfl rfl hd_X10_leaving ⟨by rw [hRf]; exact Nat.le_of_ble_eq_true rfl, by rw [hRl]; exact Nat.le_of_ble_eq_true rfl⟩) (mm_preV hK hZ hS hA hP hD [0, 1, 2, 3, 4, 5, 6, 7, 8, 9, 10, 11, 12, 13] rfl rfl 0 rfl rfl rfl) rfl rfl hl.1 rfl (lv_room (Nat.le_of_ble_eq_true rfl)) dX10_topDay_10 ⟨by rw [hRc]; exact Nat.le_of_ble_eq_true rfl, by rw [hRs]; exact Nat.le_of_ble_eq_true rfl⟩) hP hD hS hA [0, 1, 2, 3, 4, 5, 6, 7, 8, 9, 10, 11, 12, 13] rfl (fun _ => rfl) ?_
  clear hP hD hS
  clear H locs
  intro v1 _u H locs hw hP hD hS
  refine lv_imul hx hb dX10_topDay_13 ?_
  refine lv_topi (fun v2 ev2 => ?_)
  refine lv_istore (lv' := [(7, .int v2), (6, .int i_1), (0, .ref a_0), (1, .int i_0), (2, .int i_1), (3, .int i_2), (4, .int i_3), (5, .int 1)]) hx hb dX10_topDay_14 hl (by decide) rfl ?_
  clear hl
  clear ls
  intro ls hl
  refine lv_iconst (v := 1) hx hb dX10_topDay_16 (by decide) ?_
  refine lv_istore (lv' := [(8, .int 1), (7, .int v2), (6, .int i_1), (0, .ref a_0), (1, .int i_0), (2, .int i_1), (3, .int i_2), (4, .int i_3), (5, .int 1)]) hx hb dX10_topDay_17 hl (by decide) rfl ?_
  clear hl
  clear ls
  intro ls hl
  have L19_258 : ∀ (n : Nat) (x19_8_256 : Int32) (x19_7_257 : Int32) (x19_6_258 : Int32), mm_rg x19_8_256 1 210 → mm_rg x19_6_258 0 1200000000 → (210 - x19_8_256.toInt).toNat < n → ∀ (H : Heap) (locs : List Loc), va_P G vwCl [(a_0, .inr (10, [.ref a_1, .ref a_2])), (a_1, .inr (0, [.int i_4, .int i_5, .int i_6, .int i_7, .int i_8, .int i_9, .int i_10, .int i_11, .ref a_3, .ref a_4, .ref a_5, .ref a_6, .ref a_7, .ref a_8, .ref a_9, .ref a_10, .ref a_11, .ref a_12])), (a_3, .inl (cy 1, 9, .inl f_0)), (a_4, .inl (cy 1, 9, .inl f_1)), (a_7, .inl (cy 1, 6, .inl f_2)), (a_8, .inl (cy 1, 48, .inl f_3)), (a_9, .inl (cy 1, 30, .inl f_4)), (a_2, .inl (cy 5, 3, .inr (.inr (.inr (.inr (va_up (va_up (va_up (fun _ => none) 0 (some a_13)) 1 (some a_14)) 2 (some a_15))))))), (a_13, .inr (1, [.ref a_16, .ref a_17, .int i_12, .int i_13, .int i_14])), (a_16, .inl (cy 1, 2100, .inl f_5)), (a_14, .inr (1, [.ref a_18, .ref a_19, .int i_15, .int i_16, .int i_17])), (a_18, .inl (cy 1, 2100, .inl f_6)), (a_15, .inr (1, [.ref a_20, .ref a_21, .int i_18, .int i_19, .int i_20])), (a_20, .inl (cy 1, 2100, .inl f_7))] H → va_D A [(a_0, .inr (10, [.ref a_1, .ref a_2])), (a_1, .inr (0, [.int i_4, .int i_5, .int i_6, .int i_7, .int i_8, .int i_9, .int i_10, .int i_11, .ref a_3, .ref a_4, .ref a_5, .ref a_6, .ref a_7, .ref a_8, .ref a_9, .ref a_10, .ref a_11, .ref a_12])), (a_3, .inl (cy 1, 9, .inl f_0)), (a_4, .inl (cy 1, 9, .inl f_1)), (a_7, .inl (cy 1, 6, .inl f_2)), (a_8, .inl (cy 1, 48, .inl f_3)), (a_9, .inl (cy 1, 30, .inl f_4)), (a_2, .inl (cy 5, 3, .inr (.inr (.inr (.inr (va_up (va_up (va_up (fun _ => none) 0 (some a_13)) 1 (some a_14)) 2 (some a_15))))))), (a_13, .inr (1, [.ref a_16, .ref a_17, .int i_12, .int i_13, .int i_14])), (a_16, .inl (cy 1, 2100, .inl f_5)), (a_14, .inr (1, [.ref a_18, .ref a_19, .int i_15, .int i_16, .int i_17])), (a_18, .inl (cy 1, 2100, .inl f_6)), (a_15, .inr (1, [.ref a_20, .ref a_21, .int i_18, .int i_19, .int i_20])), (a_20, .inl (cy 1, 2100, .inl f_7))] → va_S A s.heap H locs → ∀ (ls : Array Slot), lv_has ls 10 [(8, .int x19_8_256), (7, .int x19_7_257), (6, .int x19_6_258), (0, .ref a_0), (1, .int i_0), (2, .int i_1), (3, .int i_2), (4, .int i_3), (5, .int 1)] → W p l e R s m args below meth c H locs 0 0 Q (F0 m 19 ls []) := by
    intro n
    induction n with
    | zero => intro x19_8_256 x19_7_257 x19_6_258 rx19_8_256 rx19_6_258 hm; exact absurd hm (Nat.not_lt_zero _)
    | succ n ih19 =>
      intro x19_8_256 x19_7_257 x19_6_258 rx19_8_256 rx19_6_258 hm19 H locs hP hD hS ls hl
      refine lv_iload hx hb dX10_topDay_19 (lv_at hl 0 rfl) ?_
      refine lv_iload_n hx hb dX10_topDay_21 rfl (lv_at hl 6 rfl) ?_
      refine lv_icmp_ge (tgt := 74) hx hb dX10_topDay_22 (by decide) (fun c260 => ?_) (fun c260 => ?_)
      · have q261 := mm_leL (mm_le c260) h2 rx19_8_256
        refine lv_iload hx hb dX10_topDay_74 (lv_at hl 2 rfl) ?_
        subst hAe
        rw [hQ]
        exact W.iret (v := x19_6_258) hx hb hr (fun t ht hW => ⟨⟨x19_6_258, (), rfl, rx19_6_258, by rw [ht]; exact hP, hK.warm hW, hD⟩, hS.F ht⟩) hS.2.2 dX10_topDay_76
      · have q262 := mm_ltR (lo := 2) (mm_nle c260) rx19_8_256 h2 (by decide)
        refine lv_iload hx hb dX10_topDay_25 (lv_at hl 0 rfl) ?_
        refine lv_aload_n hx hb dX10_topDay_27 rfl (lv_at hl 3 rfl) ?_
        refine lv_iload_n hx hb dX10_topDay_28 rfl (lv_at hl 4 rfl) ?_
        refine mm_finir (va_runV (As := [.int i_0]) (rest := [.int x19_8_256]) ⟨hx, hb, hml, hown, hts⟩ (K360_X10_period l G cy H.size a_0 i_0 a_1 a_2 a_13 a_14 a_15 a_16 a_17 i_12 i_13 i_14 a_18 a_19 i_15 i_16 i_17 a_20 a_21 i_18 i_19 i_20 h0 h11 h13 h15) (cwV 1 hts (mm_gV mm_w768 mm_w744 mm_w745 mm_w23 mm_w746) rfl rfl rfl hd_X10_period ⟨by rw [hRf]; exact Nat.le_of_ble_eq_true rfl, by rw [hRl]; exact Nat.le_of_ble_eq_true rfl⟩) (mm_preV hK hZ hS hA hP hD [0, 7, 8, 10, 12] rfl rfl 0 rfl rfl rfl) rfl rfl hl.1 rfl (lv_room (Nat.le_of_ble_eq_true rfl)) dX10_topDay_29 ⟨by rw [hRc]; exact Nat.le_of_ble_eq_true rfl, by rw [hRs]; exact Nat.le_of_ble_eq_true rfl⟩) hP hD hS hA [0, 7, 8, 10, 12] rfl (fun _ => rfl) ?_
        clear hP hD hS
        clear H locs
        intro v263 _u H locs hw hP hD hS
        have w264 := hw
        refine lv_icmp_ge (tgt := 74) hx hb dX10_topDay_32 (by decide) (fun c265 => ?_) (fun c265 => ?_)
        · refine lv_iload hx hb dX10_topDay_74 (lv_at hl 2 rfl) ?_
          subst hAe
          rw [hQ]
          exact W.iret (v := x19_6_258) hx hb hr (fun t ht hW => ⟨⟨x19_6_258, (), rfl, rx19_6_258, by rw [ht]; exact hP, hK.warm hW, hD⟩, hS.F ht⟩) hS.2.2 dX10_topDay_76
        · have q266 := mm_ltL (h := 209) (mm_nle c265) rx19_8_256 w264 (by decide)
          have q267 := mm_ltR (lo := 2) (mm_nle c265) rx19_8_256 w264 (by decide)
          refine lv_iload hx hb dX10_topDay_35 (lv_at hl 8 rfl) ?_
          refine lv_aload_n hx hb dX10_topDay_37 rfl (lv_at hl 3 rfl) ?_
          refine lv_iload_n hx hb dX10_topDay_38 rfl (lv_at hl 4 rfl) ?_
          refine lv_iload_n hx hb dX10_topDay_39 rfl (lv_at hl 5 rfl) ?_
          refine lv_iload hx hb dX10_topDay_40 (lv_at hl 0 rfl) ?_
          refine lv_iadd hx hb dX10_topDay_42 ?_
          refine lv_topi (fun v268 ev268 => ?_)
          have rv268 : mm_rg v268 1 1000000210 := mm_add ev268 h1 q266 (by decide) (by decide)
          have tv268 := mm_addE ev268 h1 q266 (by decide)
          refine lv_iload hx hb dX10_topDay_43 (lv_at hl 7 rfl) ?_
          refine mm_finir (va_runV (As := [.int i_0, .int v268, .int i_3]) (rest := [.int 1]) ⟨hx, hb, hml, hown, hts⟩ (K374_X10_leaving l G cy H.size a_0 i_0 v268 i_3 a_1 a_2 i_4 i_5 i_6 i_7 i_8 i_9 i_10 i_11 a_3 a_4 a_5 a_6 a_7 a_8 a_9 a_10 a_11 a_12 f_0 f_1 f_2 f_3 f_4 a_13 a_14 a_15 a_16 a_17 i_12 i_13 i_14 f_5 a_18 a_19 i_15 i_16 i_17 f_6 a_20 a_21 i_18 i_19 i_20 f_7 h0 (mm_wk rv268 (by decide)) h3 h4 h5 h6 h7 h8 h9 h10 h11 h12 h13 h14 h15 h16) (cwV 3 hts (mm_gV mm_w906 mm_w830 mm_w831 mm_w23 mm_w832) rfl rfl rfl hd_X10_leaving ⟨by rw [hRf]; exact Nat.le_of_ble_eq_true rfl, by rw [hRl]; exact Nat.le_of_ble_eq_true rfl⟩) (mm_preV hK hZ hS hA hP hD [0, 1, 2, 3, 4, 5, 6, 7, 8, 9, 10, 11, 12, 13] rfl rfl 0 rfl rfl rfl) rfl rfl hl.1 rfl (lv_room (Nat.le_of_ble_eq_true rfl)) dX10_topDay_45 ⟨by rw [hRc]; exact Nat.le_of_ble_eq_true rfl, by rw [hRs]; exact Nat.le_of_ble_eq_true rfl⟩) hP hD hS hA [0, 1, 2, 3, 4, 5, 6, 7, 8, 9, 10, 11, 12, 13] rfl (fun _ => rfl) ?_
          clear hP hD hS
          clear H locs
          intro v269 _u H locs hw hP hD hS
          refine lv_imul hx hb dX10_topDay_48 ?_
          refine lv_topi (fun v270 ev270 => ?_)
          refine lv_istore (lv' := [(9, .int v270), (8, .int x19_8_256), (7, .int x19_7_257), (6, .int x19_6_258), (0, .ref a_0), (1, .int i_0), (2, .int i_1), (3, .int i_2), (4, .int i_3), (5, .int 1)]) hx hb dX10_topDay_49 hl (by decide) rfl ?_
          clear hl
          clear ls
          intro ls hl
          refine lv_iload hx hb dX10_topDay_51 (lv_at hl 0 rfl) ?_
          refine lv_iload hx hb dX10_topDay_53 (lv_at hl 2 rfl) ?_
          refine lv_icmp_le (tgt := 68) hx hb dX10_topDay_55 (by decide) (fun c271 => ?_) (fun c271 => ?_)
          · obtain ⟨v272, ev272⟩ : ∃ y : Int32, y = x19_8_256 + 1 := ⟨_, rfl⟩
            refine lv_iinc (v := v272) (lv' := [(8, .int v272), (9, .int v270), (7, .int x19_7_257), (6, .int x19_6_258), (0, .ref a_0), (1, .int i_0), (2, .int i_1), (3, .int i_2), (4, .int i_3), (5, .int 1)]) hx hb dX10_topDay_68 hl (k := 1) rfl (by rw [ev272]; rfl) (by decide) rfl ?_
            clear hl
            clear ls
            intro ls hl
            have rv272 : mm_rg v272 2 210 := mm_add ev272 q266 mm_k1 (by decide) (by decide)
            have tv272 := mm_addEc ev272 q266 mm_k1 (by decide) (k := 1) (by decide)
            refine lv_goto (tgt := 19) hx hb dX10_topDay_71 (by decide) ?_
            exact ih19 v272 x19_7_257 x19_6_258 (mm_wk rv272 (by decide)) rx19_6_258 (mm_mu hm19 tv272 (by decide) (rv272).2 (by decide)) H locs hP hD hS ls (lv_sub hl [0, 2, 3, 4, 5, 6, 7, 8, 9] rfl)
          · have q273 := mm_ltL (h := 2147483646) (mm_nle c271) (mm_top x19_7_257) (mm_top v270) (by decide)
            have q274 := mm_ltR (lo := (-2147483647)) (mm_nle c271) (mm_top x19_7_257) (mm_top v270) (by decide)
            refine lv_iload hx hb dX10_topDay_58 (lv_at hl 0 rfl) ?_
            refine lv_istore (lv' := [(7, .int v270), (9, .int v270), (8, .int x19_8_256), (6, .int x19_6_258), (0, .ref a_0), (1, .int i_0), (2, .int i_1), (3, .int i_2), (4, .int i_3), (5, .int 1)]) hx hb dX10_topDay_60 hl (by decide) rfl ?_
            clear hl
            clear ls
            intro ls hl
            refine lv_iload_n hx hb dX10_topDay_62 rfl (lv_at hl 6 rfl) ?_
            refine lv_iload hx hb dX10_topDay_63 (lv_at hl 2 rfl) ?_
            refine lv_iadd hx hb dX10_topDay_65 ?_
            refine lv_topi (fun v275 ev275 => ?_)
            have rv275 : mm_rg v275 1 1000000210 := mm_add ev275 h1 q266 (by decide) (by decide)
            have tv275 := mm_addE ev275 h1 q266 (by decide)
            refine lv_istore (lv' := [(6, .int v275), (7, .int v270), (9, .int v270), (8, .int x19_8_256), (0, .ref a_0), (1, .int i_0), (2, .int i_1), (3, .int i_2), (4, .int i_3), (5, .int 1)]) hx hb dX10_topDay_66 hl (by decide) rfl ?_
            clear hl
            clear ls
            intro ls hl
            obtain ⟨v276, ev276⟩ : ∃ y : Int32, y = x19_8_256 + 1 := ⟨_, rfl⟩
            refine lv_iinc (v := v276) (lv' := [(8, .int v276), (6, .int v275), (7, .int v270), (9, .int v270), (0, .ref a_0), (1, .int i_0), (2, .int i_1), (3, .int i_2), (4, .int i_3), (5, .int 1)]) hx hb dX10_topDay_68 hl (k := 3) rfl (by rw [ev276]; rfl) (by decide) rfl ?_
            clear hl
            clear ls
            intro ls hl
            have rv276 : mm_rg v276 2 210 := mm_add ev276 q266 mm_k1 (by decide) (by decide)
            have tv276 := mm_addEc ev276 q266 mm_k1 (by decide) (k := 1) (by decide)
            refine lv_goto (tgt := 19) hx hb dX10_topDay_71 (by decide) ?_
            exact ih19 v276 v270 v275 (mm_wk rv276 (by decide)) (mm_wk rv275 (by decide)) (mm_mu hm19 tv276 (by decide) (rv276).2 (by decide)) H locs hP hD hS ls (lv_sub hl [0, 2, 1, 4, 5, 6, 7, 8, 9] rfl)
  exact L19_258 _ 1 v2 i_1 (mm_wk mm_k1 (by decide)) (mm_wk h1 (by decide)) (Nat.lt_succ_self _) H locs hP hD hS ls (lv_sub hl [0, 1, 2, 3, 4, 5, 6, 7, 8] rfl)

set_option maxHeartbeats 4000000 in
set_option maxRecDepth 100000 in
theorem K385_X11_best (l : Launch) (G : va_G) (cy : Nat → ClassId) (sz : Nat) (a_0 : Nat) (i_0 : Int32) (i_1 : Int32) (i_2 : Int32) (i_3 : Int32) (a_1 : Nat) (a_2 : Nat) (a_3 : Nat) (a_4 : Nat) (a_5 : Nat) (a_6 : Nat) (a_7 : Nat) (a_8 : Nat) (a_9 : Nat) (a_10 : Nat) (a_11 : Nat) (a_12 : Nat) (a_13 : Nat) (i_4 : Int32) (i_5 : Int32) (i_6 : Int32) (i_7 : Int32) (i_8 : Int32) (i_9 : Int32) (i_10 : Int32) (i_11 : Int32) (a_14 : Nat) (a_15 : Nat) (a_16 : Nat) (a_17 : Nat) (a_18 : Nat) (a_19 : Nat) (a_20 : Nat) (a_21 : Nat) (a_22 : Nat) (a_23 : Nat) (f_0 : Nat → Int32) (f_1 : Nat → Int32) (f_2 : Nat → Int32) (f_3 : Nat → Int32) (f_4 : Nat → Int32) (a_24 : Nat) (a_25 : Nat) (a_26 : Nat) (a_27 : Nat) (a_28 : Nat) (i_12 : Int32) (i_13 : Int32) (i_14 : Int32) (f_5 : Nat → Int32) (a_29 : Nat) (a_30 : Nat) (i_15 : Int32) (i_16 : Int32) (i_17 : Int32) (f_6 : Nat → Int32) (a_31 : Nat) (a_32 : Nat) (i_18 : Int32) (i_19 : Int32) (i_20 : Int32) (f_7 : Nat → Int32) (h0 : mm_rg i_7 0 99) (h1 : mm_rg i_8 0 9) (h2 : mm_rg i_9 0 3) (h3 : mm_rg i_10 0 6) (h4 : mm_ar f_0 (-1) 4) (h5 : mm_ar f_1 0 99) (h6 : mm_ar f_2 0 8) (h7 : mm_ar f_3 0 9) (h8 : mm_ar f_4 0 9) (h9 : mm_rg i_14 (-2147483648) 210) (h10 : mm_ar f_5 0 9) (h11 : mm_rg i_17 (-2147483648) 210) (h12 : mm_ar f_6 0 9) (h13 : mm_rg i_20 (-2147483648) 210) (h14 : mm_ar f_7 0 9)  : mm_CI l yX11_best (mm_ws yX11_best cX11_best 5 (some .int)) ({ frames := 5, cells := 0, slots := 0, locals := 140 } : Room) G cy sz [(a_0, .inr (11, [.ref a_1, .ref a_2, .ref a_3, .ref a_4, .ref a_5, .ref a_6, .ref a_7, .ref a_8, .ref a_9, .ref a_10, .ref a_11])), (a_3, .inr (10, [.ref a_12, .ref a_13])), (a_12, .inr (0, [.int i_4, .int i_5, .int i_6, .int i_7, .int i_8, .int i_9, .int i_10, .int i_11, .ref a_14, .ref a_15, .ref a_16, .ref a_17, .ref a_18, .ref a_19, .ref a_20, .ref a_21, .ref a_22, .ref a_23])), (a_14, .inl (cy 1, 9, .inl f_0)), (a_15, .inl (cy 1, 9, .inl f_1)), (a_18, .inl (cy 1, 6, .inl f_2)), (a_19, .inl (cy 1, 48, .inl f_3)), (a_20, .inl (cy 1, 30, .inl f_4)), (a_13, .inl (cy 5, 3, .inr (.inr (.inr (.inr (va_up (va_up (va_up (fun _ => none) 0 (some a_24)) 1 (some a_25)) 2 (some a_26))))))), (a_24, .inr (1, [.ref a_27, .ref a_28, .int i_12, .int i_13, .int i_14])), (a_27, .inl (cy 1, 2100, .inl f_5)), (a_25, .inr (1, [.ref a_29, .ref a_30, .int i_15, .int i_16, .int i_17])), (a_29, .inl (cy 1, 2100, .inl f_6)), (a_26, .inr (1, [.ref a_31, .ref a_32, .int i_18, .int i_19, .int i_20])), (a_31, .inl (cy 1, 2100, .inl f_7))] [.ref a_0, .int i_0, .int i_1, .int i_2, .int i_3] (fun u : Unit => [(a_0, .inr (11, [.ref a_1, .ref a_2, .ref a_3, .ref a_4, .ref a_5, .ref a_6, .ref a_7, .ref a_8, .ref a_9, .ref a_10, .ref a_11])), (a_3, .inr (10, [.ref a_12, .ref a_13])), (a_12, .inr (0, [.int i_4, .int i_5, .int i_6, .int i_7, .int i_8, .int i_9, .int i_10, .int i_11, .ref a_14, .ref a_15, .ref a_16, .ref a_17, .ref a_18, .ref a_19, .ref a_20, .ref a_21, .ref a_22, .ref a_23])), (a_14, .inl (cy 1, 9, .inl f_0)), (a_15, .inl (cy 1, 9, .inl f_1)), (a_18, .inl (cy 1, 6, .inl f_2)), (a_19, .inl (cy 1, 48, .inl f_3)), (a_20, .inl (cy 1, 30, .inl f_4)), (a_13, .inl (cy 5, 3, .inr (.inr (.inr (.inr (va_up (va_up (va_up (fun _ => none) 0 (some a_24)) 1 (some a_25)) 2 (some a_26))))))), (a_24, .inr (1, [.ref a_27, .ref a_28, .int i_12, .int i_13, .int i_14])), (a_27, .inl (cy 1, 2100, .inl f_5)), (a_25, .inr (1, [.ref a_29, .ref a_30, .int i_15, .int i_16, .int i_17])), (a_29, .inl (cy 1, 2100, .inl f_6)), (a_26, .inr (1, [.ref a_31, .ref a_32, .int i_18, .int i_19, .int i_20])), (a_31, .inl (cy 1, 2100, .inl f_7))]) (fun (r : Int32) (u : Unit) => mm_rg r (-2) 1200000000) 0 0 := by
  refine mm_begin (lv := [(0, .ref a_0), (1, .int i_0), (2, .int i_1), (3, .int i_2), (4, .int i_3)]) (by decide) (Nat.le_of_ble_eq_true rfl) rfl ?_
  intro p e s m below meth c A ls R args Q H locs hRe hQ hAe hx hb hr hlocks hml hown hnm hts hsz hA hS hP hK hD hZ hl
  have hRf : R.frames = 5 := by rw [hRe]
  have hRl : R.locals = 140 := by rw [hRe]
  have hRc : R.cells = 0 := by rw [hRe]
  have hRs : R.slots = 0 := by rw [hRe]
  refine lv_aload_n hx hb dX11_best_0 rfl (lv_at hl 0 rfl) ?_
  refine lv_iload_n hx hb dX11_best_1 rfl (lv_at hl 1 rfl) ?_
  refine lv_iload_n hx hb dX11_best_2 rfl (lv_at hl 2 rfl) ?_
  refine lv_iload hx hb dX11_best_3 (lv_at hl 4 rfl) ?_
  refine mm_finir (va_runV (As := [.int i_0, .int i_1, .int i_3]) (rest := []) ⟨hx, hb, hml, hown, hts⟩ (K371_X11_isReading l G cy H.size a_0 i_0 i_1 i_3 a_1 a_2 a_3 a_4 a_5 a_6 a_7 a_8 a_9 a_10 a_11 a_12 a_13 i_4 i_5 i_6 i_7 i_8 i_9 i_10 i_11 a_14 a_15 a_16 a_17 a_18 a_19 a_20 a_21 a_22 a_23 h2 h3) (cwV 3 hts (mm_gV mm_w825 mm_w826 mm_w827 mm_w2 mm_w828) rfl rfl rfl hd_X11_isReading ⟨by rw [hRf]; exact Nat.le_of_ble_eq_true rfl, by rw [hRl]; exact Nat.le_of_ble_eq_true rfl⟩) (mm_preV hK hZ hS hA hP hD [0, 1, 2] rfl rfl 0 rfl rfl rfl) rfl rfl hl.1 rfl (lv_room (Nat.le_of_ble_eq_true rfl)) dX11_best_5 ⟨by rw [hRc]; exact Nat.le_of_ble_eq_true rfl, by rw [hRs]; exact Nat.le_of_ble_eq_true rfl⟩) hP hD hS hA [0, 1, 2] rfl (fun _ => rfl) ?_
  clear hP hD hS
  clear H locs
  intro v1 _u H locs hw hP hD hS
  rcases hw with rfl | ⟨rfl, w2, w3, w4⟩
  · refine lv_if_eq (tgt := 23) hx hb dX11_best_8 (by decide) (fun c5 => ?_) (fun c5 => ?_)
    · refine lv_bipush (v := (-2)) hx hb dX11_best_23 (by decide) ?_
      subst hAe
      rw [hQ]
      exact W.iret (v := (-2)) hx hb hr (fun t ht hW => ⟨⟨(-2), (), rfl, (mm_wk mm_km2 (by decide)), by rw [ht]; exact hP, hK.warm hW, hD⟩, hS.F ht⟩) hS.2.2 dX11_best_25
    · have q6 := mm_neL (lo := 1) (mm_ne c5) mm_k0 mm_k0 (by decide) (by decide)
      exact mm_no q6 (by decide)
  · refine lv_if_eq (tgt := 23) hx hb dX11_best_8 (by decide) (fun c7 => ?_) (fun c7 => ?_)
    · exact mm_eqN c7.symm mm_k0 mm_k1 (by decide)
    · refine lv_iload_n hx hb dX11_best_11 rfl (lv_at hl 3 rfl) ?_
      refine lv_iconst (v := 1) hx hb dX11_best_12 (by decide) ?_
      refine lv_icmp_lt (tgt := 23) hx hb dX11_best_13 (by decide) (fun c8 => ?_) (fun c8 => ?_)
      · have q9 := mm_ltL (h := 0) (mm_lt c8) (mm_top i_2) mm_k1 (by decide)
        refine lv_bipush (v := (-2)) hx hb dX11_best_23 (by decide) ?_
        subst hAe
        rw [hQ]
        exact W.iret (v := (-2)) hx hb hr (fun t ht hW => ⟨⟨(-2), (), rfl, (mm_wk mm_km2 (by decide)), by rw [ht]; exact hP, hK.warm hW, hD⟩, hS.F ht⟩) hS.2.2 dX11_best_25
      · have q10 := mm_leR (mm_nlt c8) mm_k1 (mm_top i_2)
        refine lv_iload_n hx hb dX11_best_16 rfl (lv_at hl 3 rfl) ?_
        refine lv_sipush (v := 1000) hx hb dX11_best_17 (by decide) ?_
        refine lv_icmp_le (tgt := 26) hx hb dX11_best_20 (by decide) (fun c11 => ?_) (fun c11 => ?_)
        · have q12 := mm_leL (mm_le c11) q10 mm_k1000
          refine lv_aload_n hx hb dX11_best_26 rfl (lv_at hl 0 rfl) ?_
          refine va_get (D := G) (ci := 11) (v := .ref a_3) (C := RX11) (T := TX11) (N := 11) hx hb hts (mm_i inlX11) hown hK.1 hP 0 rfl rfl 2 (by decide) (mm_h hts mm_w24) (fun _ h9 => h9) rfl dX11_best_27 ?_
          refine lv_iload_n hx hb dX11_best_30 rfl (lv_at hl 1 rfl) ?_
          refine lv_iload_n hx hb dX11_best_31 rfl (lv_at hl 2 rfl) ?_
          refine lv_iload_n hx hb dX11_best_32 rfl (lv_at hl 3 rfl) ?_
          refine lv_iload hx hb dX11_best_33 (lv_at hl 4 rfl) ?_
          refine lv_iconst (v := 1) hx hb dX11_best_35 (by decide) ?_
          refine mm_finir (va_runV (As := [.int i_0, .int i_1, .int i_2, .int i_3, .int 1]) (rest := []) ⟨hx, hb, hml, hown, hts⟩ (K384_X10_topDay l G cy H.size a_3 i_0 i_1 i_2 i_3 a_12 a_13 i_4 i_5 i_6 i_7 i_8 i_9 i_10 i_11 a_14 a_15 a_16 a_17 a_18 a_19 a_20 a_21 a_22 a_23 f_0 f_1 f_2 f_3 f_4 a_24 a_25 a_26 a_27 a_28 i_12 i_13 i_14 f_5 a_29 a_30 i_15 i_16 i_17 f_6 a_31 a_32 i_18 i_19 i_20 f_7 w2 (mm_wk w3 (by decide)) q12 w4 h0 h1 h4 h5 h6 h7 h8 h9 h10 h11 h12 h13 h14) (cwV 5 hts (mm_gV mm_w930 mm_w931 mm_w932 mm_w23 mm_w933) rfl rfl rfl hd_X10_topDay ⟨by rw [hRf]; exact Nat.le_of_ble_eq_true rfl, by rw [hRl]; exact Nat.le_of_ble_eq_true rfl⟩) (mm_preV hK hZ hS hA hP hD [1, 2, 3, 4, 5, 6, 7, 8, 9, 10, 11, 12, 13, 14] rfl rfl 1 rfl rfl rfl) rfl rfl hl.1 rfl (lv_room (Nat.le_of_ble_eq_true rfl)) dX11_best_36 ⟨by rw [hRc]; exact Nat.le_of_ble_eq_true rfl, by rw [hRs]; exact Nat.le_of_ble_eq_true rfl⟩) hP hD hS hA [1, 2, 3, 4, 5, 6, 7, 8, 9, 10, 11, 12, 13, 14] rfl (fun _ => rfl) ?_
          clear hP hD hS
          clear H locs
          intro v13 _u H locs hw hP hD hS
          have w14 := hw
          subst hAe
          rw [hQ]
          exact W.iret (v := v13) hx hb hr (fun t ht hW => ⟨⟨v13, (), rfl, (mm_wk w14 (by decide)), by rw [ht]; exact hP, hK.warm hW, hD⟩, hS.F ht⟩) hS.2.2 dX11_best_39
        · have q15 := mm_ltR (lo := 1001) (mm_nle c11) mm_k1000 q10 (by decide)
          refine lv_bipush (v := (-2)) hx hb dX11_best_23 (by decide) ?_
          subst hAe
          rw [hQ]
          exact W.iret (v := (-2)) hx hb hr (fun t ht hW => ⟨⟨(-2), (), rfl, (mm_wk mm_km2 (by decide)), by rw [ht]; exact hP, hK.warm hW, hD⟩, hS.F ht⟩) hS.2.2 dX11_best_25

set_option maxHeartbeats 4000000 in
set_option maxRecDepth 100000 in
theorem K386_X10_topDay (l : Launch) (G : va_G) (cy : Nat → ClassId) (sz : Nat) (a_0 : Nat) (i_0 : Int32) (i_1 : Int32) (i_2 : Int32) (i_3 : Int32) (a_1 : Nat) (a_2 : Nat) (i_4 : Int32) (i_5 : Int32) (i_6 : Int32) (i_7 : Int32) (i_8 : Int32) (i_9 : Int32) (i_10 : Int32) (i_11 : Int32) (a_3 : Nat) (a_4 : Nat) (a_5 : Nat) (a_6 : Nat) (a_7 : Nat) (a_8 : Nat) (a_9 : Nat) (a_10 : Nat) (a_11 : Nat) (a_12 : Nat) (f_0 : Nat → Int32) (f_1 : Nat → Int32) (f_2 : Nat → Int32) (f_3 : Nat → Int32) (f_4 : Nat → Int32) (a_13 : Nat) (a_14 : Nat) (a_15 : Nat) (a_16 : Nat) (a_17 : Nat) (i_12 : Int32) (i_13 : Int32) (i_14 : Int32) (f_5 : Nat → Int32) (a_18 : Nat) (a_19 : Nat) (i_15 : Int32) (i_16 : Int32) (i_17 : Int32) (f_6 : Nat → Int32) (a_20 : Nat) (a_21 : Nat) (i_18 : Int32) (i_19 : Int32) (i_20 : Int32) (f_7 : Nat → Int32) (h0 : mm_rg i_0 0 2) (h1 : mm_rg i_1 0 1000000001) (h2 : mm_rg i_2 1 1000) (h3 : mm_rg i_3 0 5) (h4 : mm_rg i_7 0 99) (h5 : mm_rg i_8 0 9) (h6 : mm_ar f_0 (-1) 4) (h7 : mm_ar f_1 0 99) (h8 : mm_ar f_2 0 8) (h9 : mm_ar f_3 0 9) (h10 : mm_ar f_4 0 9) (h11 : mm_rg i_14 (-2147483648) 210) (h12 : mm_ar f_5 0 9) (h13 : mm_rg i_17 (-2147483648) 210) (h14 : mm_ar f_6 0 9) (h15 : mm_rg i_20 (-2147483648) 210) (h16 : mm_ar f_7 0 9)  : mm_CI l yX10_topDay (mm_ws yX10_topDay cX10_topDay 10 (some .int)) ({ frames := 4, cells := 0, slots := 0, locals := 111 } : Room) G cy sz [(a_0, .inr (10, [.ref a_1, .ref a_2])), (a_1, .inr (0, [.int i_4, .int i_5, .int i_6, .int i_7, .int i_8, .int i_9, .int i_10, .int i_11, .ref a_3, .ref a_4, .ref a_5, .ref a_6, .ref a_7, .ref a_8, .ref a_9, .ref a_10, .ref a_11, .ref a_12])), (a_3, .inl (cy 1, 9, .inl f_0)), (a_4, .inl (cy 1, 9, .inl f_1)), (a_7, .inl (cy 1, 6, .inl f_2)), (a_8, .inl (cy 1, 48, .inl f_3)), (a_9, .inl (cy 1, 30, .inl f_4)), (a_2, .inl (cy 5, 3, .inr (.inr (.inr (.inr (va_up (va_up (va_up (fun _ => none) 0 (some a_13)) 1 (some a_14)) 2 (some a_15))))))), (a_13, .inr (1, [.ref a_16, .ref a_17, .int i_12, .int i_13, .int i_14])), (a_16, .inl (cy 1, 2100, .inl f_5)), (a_14, .inr (1, [.ref a_18, .ref a_19, .int i_15, .int i_16, .int i_17])), (a_18, .inl (cy 1, 2100, .inl f_6)), (a_15, .inr (1, [.ref a_20, .ref a_21, .int i_18, .int i_19, .int i_20])), (a_20, .inl (cy 1, 2100, .inl f_7))] [.ref a_0, .int i_0, .int i_1, .int i_2, .int i_3, .int (-1)] (fun u : Unit => [(a_0, .inr (10, [.ref a_1, .ref a_2])), (a_1, .inr (0, [.int i_4, .int i_5, .int i_6, .int i_7, .int i_8, .int i_9, .int i_10, .int i_11, .ref a_3, .ref a_4, .ref a_5, .ref a_6, .ref a_7, .ref a_8, .ref a_9, .ref a_10, .ref a_11, .ref a_12])), (a_3, .inl (cy 1, 9, .inl f_0)), (a_4, .inl (cy 1, 9, .inl f_1)), (a_7, .inl (cy 1, 6, .inl f_2)), (a_8, .inl (cy 1, 48, .inl f_3)), (a_9, .inl (cy 1, 30, .inl f_4)), (a_2, .inl (cy 5, 3, .inr (.inr (.inr (.inr (va_up (va_up (va_up (fun _ => none) 0 (some a_13)) 1 (some a_14)) 2 (some a_15))))))), (a_13, .inr (1, [.ref a_16, .ref a_17, .int i_12, .int i_13, .int i_14])), (a_16, .inl (cy 1, 2100, .inl f_5)), (a_14, .inr (1, [.ref a_18, .ref a_19, .int i_15, .int i_16, .int i_17])), (a_18, .inl (cy 1, 2100, .inl f_6)), (a_15, .inr (1, [.ref a_20, .ref a_21, .int i_18, .int i_19, .int i_20])), (a_20, .inl (cy 1, 2100, .inl f_7))]) (fun (r : Int32) (u : Unit) => mm_rg r 0 1200000000) 0 0 := by
  refine mm_begin (lv := [(0, .ref a_0), (1, .int i_0), (2, .int i_1), (3, .int i_2), (4, .int i_3), (5, .int (-1))]) (by decide) (Nat.le_of_ble_eq_true rfl) rfl ?_
  intro p e s m below meth c A ls R args Q H locs hRe hQ hAe hx hb hr hlocks hml hown hnm hts hsz hA hS hP hK hD hZ hl
  have hRf : R.frames = 4 := by rw [hRe]
  have hRl : R.locals = 111 := by rw [hRe]
  have hRc : R.cells = 0 := by rw [hRe]
  have hRs : R.slots = 0 := by rw [hRe]
  refine lv_iload_n hx hb dX10_topDay_0 rfl (lv_at hl 2 rfl) ?_
  refine lv_istore (lv' := [(6, .int i_1), (0, .ref a_0), (1, .int i_0), (2, .int i_1), (3, .int i_2), (4, .int i_3), (5, .int (-1))]) hx hb dX10_topDay_1 hl (by decide) rfl ?_
  clear hl
  clear ls
  intro ls hl
  refine lv_iload hx hb dX10_topDay_3 (lv_at hl 6 rfl) ?_
  refine lv_aload_n hx hb dX10_topDay_5 rfl (lv_at hl 1 rfl) ?_
  refine lv_iload_n hx hb dX10_topDay_6 rfl (lv_at hl 2 rfl) ?_
  refine lv_iload_n hx hb dX10_topDay_7 rfl (lv_at hl 3 rfl) ?_
  refine lv_iload hx hb dX10_topDay_8 (lv_at hl 5 rfl) ?_
  refine mm_finir (va_runV (As := [.int i_0, .int i_1, .int i_3]) (rest := [.int (-1)]) ⟨hx, hb, hml, hown, hts⟩ (K374_X10_leaving l G cy H.size a_0 i_0 i_1 i_3 a_1 a_2 i_4 i_5 i_6 i_7 i_8 i_9 i_10 i_11 a_3 a_4 a_5 a_6 a_7 a_8 a_9 a_10 a_11 a_12 f_0 f_1 f_2 f_3 f_4 a_13 a_14 a_15 a_16 a_17 i_12 i_13 i_14 f_5 a_18 a_19 i_15 i_16 i_17 f_6 a_20 a_21 i_18 i_19 i_20 f_7 h0 (mm_wk h1 (by decide)) h3 h4 h5 h6 h7 h8 h9 h10 h11 h12 h13 h14 h15 h16) (cwV 3 hts (mm_gV mm_w906 mm_w830 mm_w831 mm_w23 mm_w832) rfl rfl rfl hd_X10_leaving ⟨by rw [hRf]; exact Nat.le_of_ble_eq_true rfl, by rw [hRl]; exact Nat.le_of_ble_eq_true rfl⟩) (mm_preV hK hZ hS hA hP hD [0, 1, 2, 3, 4, 5, 6, 7, 8, 9, 10, 11, 12, 13] rfl rfl 0 rfl rfl rfl) rfl rfl hl.1 rfl (lv_room (Nat.le_of_ble_eq_true rfl)) dX10_topDay_10 ⟨by rw [hRc]; exact Nat.le_of_ble_eq_true rfl, by rw [hRs]; exact Nat.le_of_ble_eq_true rfl⟩) hP hD hS hA [0, 1, 2, 3, 4, 5, 6, 7, 8, 9, 10, 11, 12, 13] rfl (fun _ => rfl) ?_
  clear hP hD hS
  clear H locs
  intro v1 _u H locs hw hP hD hS
  refine lv_imul hx hb dX10_topDay_13 ?_
  refine lv_topi (fun v2 ev2 => ?_)
  refine lv_istore (lv' := [(7, .int v2), (6, .int i_1), (0, .ref a_0), (1, .int i_0), (2, .int i_1), (3, .int i_2), (4, .int i_3), (5, .int (-1))]) hx hb dX10_topDay_14 hl (by decide) rfl ?_
  clear hl
  clear ls
  intro ls hl
  refine lv_iconst (v := 1) hx hb dX10_topDay_16 (by decide) ?_
  refine lv_istore (lv' := [(8, .int 1), (7, .int v2), (6, .int i_1), (0, .ref a_0), (1, .int i_0), (2, .int i_1), (3, .int i_2), (4, .int i_3), (5, .int (-1))]) hx hb dX10_topDay_17 hl (by decide) rfl ?_
  clear hl
  clear ls
  intro ls hl
  have L19_258 : ∀ (n : Nat) (x19_8_256 : Int32) (x19_7_257 : Int32) (x19_6_258 : Int32), mm_rg x19_8_256 1 210 → mm_rg x19_6_258 0 1200000000 → (210 - x19_8_256.toInt).toNat < n → ∀ (H : Heap) (locs : List Loc), va_P G vwCl [(a_0, .inr (10, [.ref a_1, .ref a_2])), (a_1, .inr (0, [.int i_4, .int i_5, .int i_6, .int i_7, .int i_8, .int i_9, .int i_10, .int i_11, .ref a_3, .ref a_4, .ref a_5, .ref a_6, .ref a_7, .ref a_8, .ref a_9, .ref a_10, .ref a_11, .ref a_12])), (a_3, .inl (cy 1, 9, .inl f_0)), (a_4, .inl (cy 1, 9, .inl f_1)), (a_7, .inl (cy 1, 6, .inl f_2)), (a_8, .inl (cy 1, 48, .inl f_3)), (a_9, .inl (cy 1, 30, .inl f_4)), (a_2, .inl (cy 5, 3, .inr (.inr (.inr (.inr (va_up (va_up (va_up (fun _ => none) 0 (some a_13)) 1 (some a_14)) 2 (some a_15))))))), (a_13, .inr (1, [.ref a_16, .ref a_17, .int i_12, .int i_13, .int i_14])), (a_16, .inl (cy 1, 2100, .inl f_5)), (a_14, .inr (1, [.ref a_18, .ref a_19, .int i_15, .int i_16, .int i_17])), (a_18, .inl (cy 1, 2100, .inl f_6)), (a_15, .inr (1, [.ref a_20, .ref a_21, .int i_18, .int i_19, .int i_20])), (a_20, .inl (cy 1, 2100, .inl f_7))] H → va_D A [(a_0, .inr (10, [.ref a_1, .ref a_2])), (a_1, .inr (0, [.int i_4, .int i_5, .int i_6, .int i_7, .int i_8, .int i_9, .int i_10, .int i_11, .ref a_3, .ref a_4, .ref a_5, .ref a_6, .ref a_7, .ref a_8, .ref a_9, .ref a_10, .ref a_11, .ref a_12])), (a_3, .inl (cy 1, 9, .inl f_0)), (a_4, .inl (cy 1, 9, .inl f_1)), (a_7, .inl (cy 1, 6, .inl f_2)), (a_8, .inl (cy 1, 48, .inl f_3)), (a_9, .inl (cy 1, 30, .inl f_4)), (a_2, .inl (cy 5, 3, .inr (.inr (.inr (.inr (va_up (va_up (va_up (fun _ => none) 0 (some a_13)) 1 (some a_14)) 2 (some a_15))))))), (a_13, .inr (1, [.ref a_16, .ref a_17, .int i_12, .int i_13, .int i_14])), (a_16, .inl (cy 1, 2100, .inl f_5)), (a_14, .inr (1, [.ref a_18, .ref a_19, .int i_15, .int i_16, .int i_17])), (a_18, .inl (cy 1, 2100, .inl f_6)), (a_15, .inr (1, [.ref a_20, .ref a_21, .int i_18, .int i_19, .int i_20])), (a_20, .inl (cy 1, 2100, .inl f_7))] → va_S A s.heap H locs → ∀ (ls : Array Slot), lv_has ls 10 [(8, .int x19_8_256), (7, .int x19_7_257), (6, .int x19_6_258), (0, .ref a_0), (1, .int i_0), (2, .int i_1), (3, .int i_2), (4, .int i_3), (5, .int (-1))] → W p l e R s m args below meth c H locs 0 0 Q (F0 m 19 ls []) := by
    intro n
    induction n with
    | zero => intro x19_8_256 x19_7_257 x19_6_258 rx19_8_256 rx19_6_258 hm; exact absurd hm (Nat.not_lt_zero _)
    | succ n ih19 =>
      intro x19_8_256 x19_7_257 x19_6_258 rx19_8_256 rx19_6_258 hm19 H locs hP hD hS ls hl
      refine lv_iload hx hb dX10_topDay_19 (lv_at hl 0 rfl) ?_
      refine lv_iload_n hx hb dX10_topDay_21 rfl (lv_at hl 6 rfl) ?_
      refine lv_icmp_ge (tgt := 74) hx hb dX10_topDay_22 (by decide) (fun c260 => ?_) (fun c260 => ?_)
      · have q261 := mm_leL (mm_le c260) h2 rx19_8_256
        refine lv_iload hx hb dX10_topDay_74 (lv_at hl 2 rfl) ?_
        subst hAe
        rw [hQ]
        exact W.iret (v := x19_6_258) hx hb hr (fun t ht hW => ⟨⟨x19_6_258, (), rfl, rx19_6_258, by rw [ht]; exact hP, hK.warm hW, hD⟩, hS.F ht⟩) hS.2.2 dX10_topDay_76
      · have q262 := mm_ltR (lo := 2) (mm_nle c260) rx19_8_256 h2 (by decide)
        refine lv_iload hx hb dX10_topDay_25 (lv_at hl 0 rfl) ?_
        refine lv_aload_n hx hb dX10_topDay_27 rfl (lv_at hl 3 rfl) ?_
        refine lv_iload_n hx hb dX10_topDay_28 rfl (lv_at hl 4 rfl) ?_
        refine mm_finir (va_runV (As := [.int i_0]) (rest := [.int x19_8_256]) ⟨hx, hb, hml, hown, hts⟩ (K360_X10_period l G cy H.size a_0 i_0 a_1 a_2 a_13 a_14 a_15 a_16 a_17 i_12 i_13 i_14 a_18 a_19 i_15 i_16 i_17 a_20 a_21 i_18 i_19 i_20 h0 h11 h13 h15) (cwV 1 hts (mm_gV mm_w768 mm_w744 mm_w745 mm_w23 mm_w746) rfl rfl rfl hd_X10_period ⟨by rw [hRf]; exact Nat.le_of_ble_eq_true rfl, by rw [hRl]; exact Nat.le_of_ble_eq_true rfl⟩) (mm_preV hK hZ hS hA hP hD [0, 7, 8, 10, 12] rfl rfl 0 rfl rfl rfl) rfl rfl hl.1 rfl (lv_room (Nat.le_of_ble_eq_true rfl)) dX10_topDay_29 ⟨by rw [hRc]; exact Nat.le_of_ble_eq_true rfl, by rw [hRs]; exact Nat.le_of_ble_eq_true rfl⟩) hP hD hS hA [0, 7, 8, 10, 12] rfl (fun _ => rfl) ?_
        clear hP hD hS
        clear H locs
        intro v263 _u H locs hw hP hD hS
        have w264 := hw
        refine lv_icmp_ge (tgt := 74) hx hb dX10_topDay_32 (by decide) (fun c265 => ?_) (fun c265 => ?_)
        · refine lv_iload hx hb dX10_topDay_74 (lv_at hl 2 rfl) ?_
          subst hAe
          rw [hQ]
          exact W.iret (v := x19_6_258) hx hb hr (fun t ht hW => ⟨⟨x19_6_258, (), rfl, rx19_6_258, by rw [ht]; exact hP, hK.warm hW, hD⟩, hS.F ht⟩) hS.2.2 dX10_topDay_76
        · have q266 := mm_ltL (h := 209) (mm_nle c265) rx19_8_256 w264 (by decide)
          have q267 := mm_ltR (lo := 2) (mm_nle c265) rx19_8_256 w264 (by decide)
          refine lv_iload hx hb dX10_topDay_35 (lv_at hl 8 rfl) ?_
          refine lv_aload_n hx hb dX10_topDay_37 rfl (lv_at hl 3 rfl) ?_
          refine lv_iload_n hx hb dX10_topDay_38 rfl (lv_at hl 4 rfl) ?_
          refine lv_iload_n hx hb dX10_topDay_39 rfl (lv_at hl 5 rfl) ?_
          refine lv_iload hx hb dX10_topDay_40 (lv_at hl 0 rfl) ?_
          refine lv_iadd hx hb dX10_topDay_42 ?_
          refine lv_topi (fun v268 ev268 => ?_)
          have rv268 : mm_rg v268 1 1000000210 := mm_add ev268 h1 q266 (by decide) (by decide)
          have tv268 := mm_addE ev268 h1 q266 (by decide)
          refine lv_iload hx hb dX10_topDay_43 (lv_at hl 7 rfl) ?_
          refine mm_finir (va_runV (As := [.int i_0, .int v268, .int i_3]) (rest := [.int (-1)]) ⟨hx, hb, hml, hown, hts⟩ (K374_X10_leaving l G cy H.size a_0 i_0 v268 i_3 a_1 a_2 i_4 i_5 i_6 i_7 i_8 i_9 i_10 i_11 a_3 a_4 a_5 a_6 a_7 a_8 a_9 a_10 a_11 a_12 f_0 f_1 f_2 f_3 f_4 a_13 a_14 a_15 a_16 a_17 i_12 i_13 i_14 f_5 a_18 a_19 i_15 i_16 i_17 f_6 a_20 a_21 i_18 i_19 i_20 f_7 h0 (mm_wk rv268 (by decide)) h3 h4 h5 h6 h7 h8 h9 h10 h11 h12 h13 h14 h15 h16) (cwV 3 hts (mm_gV mm_w906 mm_w830 mm_w831 mm_w23 mm_w832) rfl rfl rfl hd_X10_leaving ⟨by rw [hRf]; exact Nat.le_of_ble_eq_true rfl, by rw [hRl]; exact Nat.le_of_ble_eq_true rfl⟩) (mm_preV hK hZ hS hA hP hD [0, 1, 2, 3, 4, 5, 6, 7, 8, 9, 10, 11, 12, 13] rfl rfl 0 rfl rfl rfl) rfl rfl hl.1 rfl (lv_room (Nat.le_of_ble_eq_true rfl)) dX10_topDay_45 ⟨by rw [hRc]; exact Nat.le_of_ble_eq_true rfl, by rw [hRs]; exact Nat.le_of_ble_eq_true rfl⟩) hP hD hS hA [0, 1, 2, 3, 4, 5, 6, 7, 8, 9, 10, 11, 12, 13] rfl (fun _ => rfl) ?_
          clear hP hD hS
          clear H locs
          intro v269 _u H locs hw hP hD hS
          refine lv_imul hx hb dX10_topDay_48 ?_
          refine lv_topi (fun v270 ev270 => ?_)
          refine lv_istore (lv' := [(9, .int v270), (8, .int x19_8_256), (7, .int x19_7_257), (6, .int x19_6_258), (0, .ref a_0), (1, .int i_0), (2, .int i_1), (3, .int i_2), (4, .int i_3), (5, .int (-1))]) hx hb dX10_topDay_49 hl (by decide) rfl ?_
          clear hl
          clear ls
          intro ls hl
          refine lv_iload hx hb dX10_topDay_51 (lv_at hl 0 rfl) ?_
          refine lv_iload hx hb dX10_topDay_53 (lv_at hl 2 rfl) ?_
          refine lv_icmp_le (tgt := 68) hx hb dX10_topDay_55 (by decide) (fun c271 => ?_) (fun c271 => ?_)
          · obtain ⟨v272, ev272⟩ : ∃ y : Int32, y = x19_8_256 + 1 := ⟨_, rfl⟩
            refine lv_iinc (v := v272) (lv' := [(8, .int v272), (9, .int v270), (7, .int x19_7_257), (6, .int x19_6_258), (0, .ref a_0), (1, .int i_0), (2, .int i_1), (3, .int i_2), (4, .int i_3), (5, .int (-1))]) hx hb dX10_topDay_68 hl (k := 1) rfl (by rw [ev272]; rfl) (by decide) rfl ?_
            clear hl
            clear ls
            intro ls hl
            have rv272 : mm_rg v272 2 210 := mm_add ev272 q266 mm_k1 (by decide) (by decide)
            have tv272 := mm_addEc ev272 q266 mm_k1 (by decide) (k := 1) (by decide)
            refine lv_goto (tgt := 19) hx hb dX10_topDay_71 (by decide) ?_
            exact ih19 v272 x19_7_257 x19_6_258 (mm_wk rv272 (by decide)) rx19_6_258 (mm_mu hm19 tv272 (by decide) (rv272).2 (by decide)) H locs hP hD hS ls (lv_sub hl [0, 2, 3, 4, 5, 6, 7, 8, 9] rfl)
          · have q273 := mm_ltL (h := 2147483646) (mm_nle c271) (mm_top x19_7_257) (mm_top v270) (by decide)
            have q274 := mm_ltR (lo := (-2147483647)) (mm_nle c271) (mm_top x19_7_257) (mm_top v270) (by decide)
            refine lv_iload hx hb dX10_topDay_58 (lv_at hl 0 rfl) ?_
            refine lv_istore (lv' := [(7, .int v270), (9, .int v270), (8, .int x19_8_256), (6, .int x19_6_258), (0, .ref a_0), (1, .int i_0), (2, .int i_1), (3, .int i_2), (4, .int i_3), (5, .int (-1))]) hx hb dX10_topDay_60 hl (by decide) rfl ?_
            clear hl
            clear ls
            intro ls hl
            refine lv_iload_n hx hb dX10_topDay_62 rfl (lv_at hl 6 rfl) ?_
            refine lv_iload hx hb dX10_topDay_63 (lv_at hl 2 rfl) ?_
            refine lv_iadd hx hb dX10_topDay_65 ?_
            refine lv_topi (fun v275 ev275 => ?_)
            have rv275 : mm_rg v275 1 1000000210 := mm_add ev275 h1 q266 (by decide) (by decide)
            have tv275 := mm_addE ev275 h1 q266 (by decide)
            refine lv_istore (lv' := [(6, .int v275), (7, .int v270), (9, .int v270), (8, .int x19_8_256), (0, .ref a_0), (1, .int i_0), (2, .int i_1), (3, .int i_2), (4, .int i_3), (5, .int (-1))]) hx hb dX10_topDay_66 hl (by decide) rfl ?_
            clear hl
            clear ls
            intro ls hl
            obtain ⟨v276, ev276⟩ : ∃ y : Int32, y = x19_8_256 + 1 := ⟨_, rfl⟩
            refine lv_iinc (v := v276) (lv' := [(8, .int v276), (6, .int v275), (7, .int v270), (9, .int v270), (0, .ref a_0), (1, .int i_0), (2, .int i_1), (3, .int i_2), (4, .int i_3), (5, .int (-1))]) hx hb dX10_topDay_68 hl (k := 3) rfl (by rw [ev276]; rfl) (by decide) rfl ?_
            clear hl
            clear ls
            intro ls hl
            have rv276 : mm_rg v276 2 210 := mm_add ev276 q266 mm_k1 (by decide) (by decide)
            have tv276 := mm_addEc ev276 q266 mm_k1 (by decide) (k := 1) (by decide)
            refine lv_goto (tgt := 19) hx hb dX10_topDay_71 (by decide) ?_
            exact ih19 v276 v270 v275 (mm_wk rv276 (by decide)) (mm_wk rv275 (by decide)) (mm_mu hm19 tv276 (by decide) (rv276).2 (by decide)) H locs hP hD hS ls (lv_sub hl [0, 2, 1, 4, 5, 6, 7, 8, 9] rfl)
  exact L19_258 _ 1 v2 i_1 (mm_wk mm_k1 (by decide)) (mm_wk h1 (by decide)) (Nat.lt_succ_self _) H locs hP hD hS ls (lv_sub hl [0, 1, 2, 3, 4, 5, 6, 7, 8] rfl)

set_option maxHeartbeats 4000000 in
set_option maxRecDepth 100000 in
theorem K387_X11_worst (l : Launch) (G : va_G) (cy : Nat → ClassId) (sz : Nat) (a_0 : Nat) (i_0 : Int32) (i_1 : Int32) (i_2 : Int32) (i_3 : Int32) (a_1 : Nat) (a_2 : Nat) (a_3 : Nat) (a_4 : Nat) (a_5 : Nat) (a_6 : Nat) (a_7 : Nat) (a_8 : Nat) (a_9 : Nat) (a_10 : Nat) (a_11 : Nat) (a_12 : Nat) (a_13 : Nat) (i_4 : Int32) (i_5 : Int32) (i_6 : Int32) (i_7 : Int32) (i_8 : Int32) (i_9 : Int32) (i_10 : Int32) (i_11 : Int32) (a_14 : Nat) (a_15 : Nat) (a_16 : Nat) (a_17 : Nat) (a_18 : Nat) (a_19 : Nat) (a_20 : Nat) (a_21 : Nat) (a_22 : Nat) (a_23 : Nat) (f_0 : Nat → Int32) (f_1 : Nat → Int32) (f_2 : Nat → Int32) (f_3 : Nat → Int32) (f_4 : Nat → Int32) (a_24 : Nat) (a_25 : Nat) (a_26 : Nat) (a_27 : Nat) (a_28 : Nat) (i_12 : Int32) (i_13 : Int32) (i_14 : Int32) (f_5 : Nat → Int32) (a_29 : Nat) (a_30 : Nat) (i_15 : Int32) (i_16 : Int32) (i_17 : Int32) (f_6 : Nat → Int32) (a_31 : Nat) (a_32 : Nat) (i_18 : Int32) (i_19 : Int32) (i_20 : Int32) (f_7 : Nat → Int32) (h0 : mm_rg i_7 0 99) (h1 : mm_rg i_8 0 9) (h2 : mm_rg i_9 0 3) (h3 : mm_rg i_10 0 6) (h4 : mm_ar f_0 (-1) 4) (h5 : mm_ar f_1 0 99) (h6 : mm_ar f_2 0 8) (h7 : mm_ar f_3 0 9) (h8 : mm_ar f_4 0 9) (h9 : mm_rg i_14 (-2147483648) 210) (h10 : mm_ar f_5 0 9) (h11 : mm_rg i_17 (-2147483648) 210) (h12 : mm_ar f_6 0 9) (h13 : mm_rg i_20 (-2147483648) 210) (h14 : mm_ar f_7 0 9)  : mm_CI l yX11_worst (mm_ws yX11_worst cX11_worst 5 (some .int)) ({ frames := 5, cells := 0, slots := 0, locals := 140 } : Room) G cy sz [(a_0, .inr (11, [.ref a_1, .ref a_2, .ref a_3, .ref a_4, .ref a_5, .ref a_6, .ref a_7, .ref a_8, .ref a_9, .ref a_10, .ref a_11])), (a_3, .inr (10, [.ref a_12, .ref a_13])), (a_12, .inr (0, [.int i_4, .int i_5, .int i_6, .int i_7, .int i_8, .int i_9, .int i_10, .int i_11, .ref a_14, .ref a_15, .ref a_16, .ref a_17, .ref a_18, .ref a_19, .ref a_20, .ref a_21, .ref a_22, .ref a_23])), (a_14, .inl (cy 1, 9, .inl f_0)), (a_15, .inl (cy 1, 9, .inl f_1)), (a_18, .inl (cy 1, 6, .inl f_2)), (a_19, .inl (cy 1, 48, .inl f_3)), (a_20, .inl (cy 1, 30, .inl f_4)), (a_13, .inl (cy 5, 3, .inr (.inr (.inr (.inr (va_up (va_up (va_up (fun _ => none) 0 (some a_24)) 1 (some a_25)) 2 (some a_26))))))), (a_24, .inr (1, [.ref a_27, .ref a_28, .int i_12, .int i_13, .int i_14])), (a_27, .inl (cy 1, 2100, .inl f_5)), (a_25, .inr (1, [.ref a_29, .ref a_30, .int i_15, .int i_16, .int i_17])), (a_29, .inl (cy 1, 2100, .inl f_6)), (a_26, .inr (1, [.ref a_31, .ref a_32, .int i_18, .int i_19, .int i_20])), (a_31, .inl (cy 1, 2100, .inl f_7))] [.ref a_0, .int i_0, .int i_1, .int i_2, .int i_3] (fun u : Unit => [(a_0, .inr (11, [.ref a_1, .ref a_2, .ref a_3, .ref a_4, .ref a_5, .ref a_6, .ref a_7, .ref a_8, .ref a_9, .ref a_10, .ref a_11])), (a_3, .inr (10, [.ref a_12, .ref a_13])), (a_12, .inr (0, [.int i_4, .int i_5, .int i_6, .int i_7, .int i_8, .int i_9, .int i_10, .int i_11, .ref a_14, .ref a_15, .ref a_16, .ref a_17, .ref a_18, .ref a_19, .ref a_20, .ref a_21, .ref a_22, .ref a_23])), (a_14, .inl (cy 1, 9, .inl f_0)), (a_15, .inl (cy 1, 9, .inl f_1)), (a_18, .inl (cy 1, 6, .inl f_2)), (a_19, .inl (cy 1, 48, .inl f_3)), (a_20, .inl (cy 1, 30, .inl f_4)), (a_13, .inl (cy 5, 3, .inr (.inr (.inr (.inr (va_up (va_up (va_up (fun _ => none) 0 (some a_24)) 1 (some a_25)) 2 (some a_26))))))), (a_24, .inr (1, [.ref a_27, .ref a_28, .int i_12, .int i_13, .int i_14])), (a_27, .inl (cy 1, 2100, .inl f_5)), (a_25, .inr (1, [.ref a_29, .ref a_30, .int i_15, .int i_16, .int i_17])), (a_29, .inl (cy 1, 2100, .inl f_6)), (a_26, .inr (1, [.ref a_31, .ref a_32, .int i_18, .int i_19, .int i_20])), (a_31, .inl (cy 1, 2100, .inl f_7))]) (fun (r : Int32) (u : Unit) => mm_rg r (-2) 1200000000) 0 0 := by
  refine mm_begin (lv := [(0, .ref a_0), (1, .int i_0), (2, .int i_1), (3, .int i_2), (4, .int i_3)]) (by decide) (Nat.le_of_ble_eq_true rfl) rfl ?_
  intro p e s m below meth c A ls R args Q H locs hRe hQ hAe hx hb hr hlocks hml hown hnm hts hsz hA hS hP hK hD hZ hl
  have hRf : R.frames = 5 := by rw [hRe]
  have hRl : R.locals = 140 := by rw [hRe]
  have hRc : R.cells = 0 := by rw [hRe]
  have hRs : R.slots = 0 := by rw [hRe]
  refine lv_aload_n hx hb dX11_worst_0 rfl (lv_at hl 0 rfl) ?_
  refine lv_iload_n hx hb dX11_worst_1 rfl (lv_at hl 1 rfl) ?_
  refine lv_iload_n hx hb dX11_worst_2 rfl (lv_at hl 2 rfl) ?_
  refine lv_iload hx hb dX11_worst_3 (lv_at hl 4 rfl) ?_
  refine mm_finir (va_runV (As := [.int i_0, .int i_1, .int i_3]) (rest := []) ⟨hx, hb, hml, hown, hts⟩ (K371_X11_isReading l G cy H.size a_0 i_0 i_1 i_3 a_1 a_2 a_3 a_4 a_5 a_6 a_7 a_8 a_9 a_10 a_11 a_12 a_13 i_4 i_5 i_6 i_7 i_8 i_9 i_10 i_11 a_14 a_15 a_16 a_17 a_18 a_19 a_20 a_21 a_22 a_23 h2 h3) (cwV 3 hts (mm_gV mm_w825 mm_w826 mm_w827 mm_w2 mm_w828) rfl rfl rfl hd_X11_isReading ⟨by rw [hRf]; exact Nat.le_of_ble_eq_true rfl, by rw [hRl]; exact Nat.le_of_ble_eq_true rfl⟩) (mm_preV hK hZ hS hA hP hD [0, 1, 2] rfl rfl 0 rfl rfl rfl) rfl rfl hl.1 rfl (lv_room (Nat.le_of_ble_eq_true rfl)) dX11_worst_5 ⟨by rw [hRc]; exact Nat.le_of_ble_eq_true rfl, by rw [hRs]; exact Nat.le_of_ble_eq_true rfl⟩) hP hD hS hA [0, 1, 2] rfl (fun _ => rfl) ?_
  clear hP hD hS
  clear H locs
  intro v1 _u H locs hw hP hD hS
  rcases hw with rfl | ⟨rfl, w2, w3, w4⟩
  · refine lv_if_eq (tgt := 23) hx hb dX11_worst_8 (by decide) (fun c5 => ?_) (fun c5 => ?_)
    · refine lv_bipush (v := (-2)) hx hb dX11_worst_23 (by decide) ?_
      subst hAe
      rw [hQ]
      exact W.iret (v := (-2)) hx hb hr (fun t ht hW => ⟨⟨(-2), (), rfl, (mm_wk mm_km2 (by decide)), by rw [ht]; exact hP, hK.warm hW, hD⟩, hS.F ht⟩) hS.2.2 dX11_worst_25
    · have q6 := mm_neL (lo := 1) (mm_ne c5) mm_k0 mm_k0 (by decide) (by decide)
      exact mm_no q6 (by decide)
  · refine lv_if_eq (tgt := 23) hx hb dX11_worst_8 (by decide) (fun c7 => ?_) (fun c7 => ?_)
    · exact mm_eqN c7.symm mm_k0 mm_k1 (by decide)
    · refine lv_iload_n hx hb dX11_worst_11 rfl (lv_at hl 3 rfl) ?_
      refine lv_iconst (v := 1) hx hb dX11_worst_12 (by decide) ?_
      refine lv_icmp_lt (tgt := 23) hx hb dX11_worst_13 (by decide) (fun c8 => ?_) (fun c8 => ?_)
      · have q9 := mm_ltL (h := 0) (mm_lt c8) (mm_top i_2) mm_k1 (by decide)
        refine lv_bipush (v := (-2)) hx hb dX11_worst_23 (by decide) ?_
        subst hAe
        rw [hQ]
        exact W.iret (v := (-2)) hx hb hr (fun t ht hW => ⟨⟨(-2), (), rfl, (mm_wk mm_km2 (by decide)), by rw [ht]; exact hP, hK.warm hW, hD⟩, hS.F ht⟩) hS.2.2 dX11_worst_25
      · have q10 := mm_leR (mm_nlt c8) mm_k1 (mm_top i_2)
        refine lv_iload_n hx hb dX11_worst_16 rfl (lv_at hl 3 rfl) ?_
        refine lv_sipush (v := 1000) hx hb dX11_worst_17 (by decide) ?_
        refine lv_icmp_le (tgt := 26) hx hb dX11_worst_20 (by decide) (fun c11 => ?_) (fun c11 => ?_)
        · have q12 := mm_leL (mm_le c11) q10 mm_k1000
          refine lv_aload_n hx hb dX11_worst_26 rfl (lv_at hl 0 rfl) ?_
          refine va_get (D := G) (ci := 11) (v := .ref a_3) (C := RX11) (T := TX11) (N := 11) hx hb hts (mm_i inlX11) hown hK.1 hP 0 rfl rfl 2 (by decide) (mm_h hts mm_w24) (fun _ h9 => h9) rfl dX11_worst_27 ?_
          refine lv_iload_n hx hb dX11_worst_30 rfl (lv_at hl 1 rfl) ?_
          refine lv_iload_n hx hb dX11_worst_31 rfl (lv_at hl 2 rfl) ?_
          refine lv_iload_n hx hb dX11_worst_32 rfl (lv_at hl 3 rfl) ?_
          refine lv_iload hx hb dX11_worst_33 (lv_at hl 4 rfl) ?_
          refine lv_iconst (v := (-1)) hx hb dX11_worst_35 (by decide) ?_
          refine mm_finir (va_runV (As := [.int i_0, .int i_1, .int i_2, .int i_3, .int (-1)]) (rest := []) ⟨hx, hb, hml, hown, hts⟩ (K386_X10_topDay l G cy H.size a_3 i_0 i_1 i_2 i_3 a_12 a_13 i_4 i_5 i_6 i_7 i_8 i_9 i_10 i_11 a_14 a_15 a_16 a_17 a_18 a_19 a_20 a_21 a_22 a_23 f_0 f_1 f_2 f_3 f_4 a_24 a_25 a_26 a_27 a_28 i_12 i_13 i_14 f_5 a_29 a_30 i_15 i_16 i_17 f_6 a_31 a_32 i_18 i_19 i_20 f_7 w2 (mm_wk w3 (by decide)) q12 w4 h0 h1 h4 h5 h6 h7 h8 h9 h10 h11 h12 h13 h14) (cwV 5 hts (mm_gV mm_w930 mm_w931 mm_w932 mm_w23 mm_w933) rfl rfl rfl hd_X10_topDay ⟨by rw [hRf]; exact Nat.le_of_ble_eq_true rfl, by rw [hRl]; exact Nat.le_of_ble_eq_true rfl⟩) (mm_preV hK hZ hS hA hP hD [1, 2, 3, 4, 5, 6, 7, 8, 9, 10, 11, 12, 13, 14] rfl rfl 1 rfl rfl rfl) rfl rfl hl.1 rfl (lv_room (Nat.le_of_ble_eq_true rfl)) dX11_worst_36 ⟨by rw [hRc]; exact Nat.le_of_ble_eq_true rfl, by rw [hRs]; exact Nat.le_of_ble_eq_true rfl⟩) hP hD hS hA [1, 2, 3, 4, 5, 6, 7, 8, 9, 10, 11, 12, 13, 14] rfl (fun _ => rfl) ?_
          clear hP hD hS
          clear H locs
          intro v13 _u H locs hw hP hD hS
          have w14 := hw
          subst hAe
          rw [hQ]
          exact W.iret (v := v13) hx hb hr (fun t ht hW => ⟨⟨v13, (), rfl, (mm_wk w14 (by decide)), by rw [ht]; exact hP, hK.warm hW, hD⟩, hS.F ht⟩) hS.2.2 dX11_worst_39
        · have q15 := mm_ltR (lo := 1001) (mm_nle c11) mm_k1000 q10 (by decide)
          refine lv_bipush (v := (-2)) hx hb dX11_worst_23 (by decide) ?_
          subst hAe
          rw [hQ]
          exact W.iret (v := (-2)) hx hb hr (fun t ht hW => ⟨⟨(-2), (), rfl, (mm_wk mm_km2 (by decide)), by rw [ht]; exact hP, hK.warm hW, hD⟩, hS.F ht⟩) hS.2.2 dX11_worst_25

set_option maxHeartbeats 4000000 in
set_option maxRecDepth 100000 in
theorem K388_X11_isLandAndText (l : Launch) (G : va_G) (cy : Nat → ClassId) (sz : Nat) (a_0 : Nat) (i_0 : Int32) (i_1 : Int32) (a_1 : Nat) (a_2 : Nat) (a_3 : Nat) (a_4 : Nat) (a_5 : Nat) (a_6 : Nat) (a_7 : Nat) (a_8 : Nat) (a_9 : Nat) (a_10 : Nat) (a_11 : Nat) (a_12 : Nat) (a_13 : Nat) (i_2 : Int32) (i_3 : Int32) (i_4 : Int32) (i_5 : Int32) (i_6 : Int32) (i_7 : Int32) (i_8 : Int32) (i_9 : Int32) (a_14 : Nat) (a_15 : Nat) (a_16 : Nat) (a_17 : Nat) (a_18 : Nat) (a_19 : Nat) (a_20 : Nat) (a_21 : Nat) (a_22 : Nat) (a_23 : Nat) (h0 : mm_rg i_7 0 3) (h1 : mm_rg i_8 0 6)  : mm_CI l yX11_isLandAndText (mm_ws yX11_isLandAndText cX11_isLandAndText 3 (some .boolean)) ({ frames := 1, cells := 0, slots := 0, locals := 21 } : Room) G cy sz [(a_0, .inr (11, [.ref a_1, .ref a_2, .ref a_3, .ref a_4, .ref a_5, .ref a_6, .ref a_7, .ref a_8, .ref a_9, .ref a_10, .ref a_11])), (a_3, .inr (10, [.ref a_12, .ref a_13])), (a_12, .inr (0, [.int i_2, .int i_3, .int i_4, .int i_5, .int i_6, .int i_7, .int i_8, .int i_9, .ref a_14, .ref a_15, .ref a_16, .ref a_17, .ref a_18, .ref a_19, .ref a_20, .ref a_21, .ref a_22, .ref a_23]))] [.ref a_0, .int i_0, .int i_1] (fun u : Unit => [(a_0, .inr (11, [.ref a_1, .ref a_2, .ref a_3, .ref a_4, .ref a_5, .ref a_6, .ref a_7, .ref a_8, .ref a_9, .ref a_10, .ref a_11])), (a_3, .inr (10, [.ref a_12, .ref a_13])), (a_12, .inr (0, [.int i_2, .int i_3, .int i_4, .int i_5, .int i_6, .int i_7, .int i_8, .int i_9, .ref a_14, .ref a_15, .ref a_16, .ref a_17, .ref a_18, .ref a_19, .ref a_20, .ref a_21, .ref a_22, .ref a_23]))]) (fun (r : Int32) (u : Unit) => ((0 = r) ∨ (1 = r ∧ mm_rg i_0 0 2 ∧ mm_rg i_1 0 5))) 0 0 := by
  refine mm_begin (lv := [(0, .ref a_0), (1, .int i_0), (2, .int i_1)]) (by decide) (Nat.le_of_ble_eq_true rfl) rfl ?_
  intro p e s m below meth c A ls R args Q H locs hRe hQ hAe hx hb hr hlocks hml hown hnm hts hsz hA hS hP hK hD hZ hl
  have hRf : R.frames = 1 := by rw [hRe]
  have hRl : R.locals = 21 := by rw [hRe]
  have hRc : R.cells = 0 := by rw [hRe]
  have hRs : R.slots = 0 := by rw [hRe]
  refine lv_aload_n hx hb dX11_isLandAndText_0 rfl (lv_at hl 0 rfl) ?_
  refine lv_iload_n hx hb dX11_isLandAndText_1 rfl (lv_at hl 1 rfl) ?_
  refine mm_finir (va_runV (As := [.int i_0]) (rest := []) ⟨hx, hb, hml, hown, hts⟩ (K350_X11_isLand l G cy H.size a_0 i_0 a_1 a_2 a_3 a_4 a_5 a_6 a_7 a_8 a_9 a_10 a_11 a_12 a_13 i_2 i_3 i_4 i_5 i_6 i_7 i_8 i_9 a_14 a_15 a_16 a_17 a_18 a_19 a_20 a_21 a_22 a_23 h0) (cwV 1 hts (mm_gV mm_w626 mm_w627 mm_w628 mm_w2 mm_w629) rfl rfl rfl hd_X11_isLand ⟨by rw [hRf]; exact Nat.le_of_ble_eq_true rfl, by rw [hRl]; exact Nat.le_of_ble_eq_true rfl⟩) (mm_preV hK hZ hS hA hP hD [0, 1, 2] rfl rfl 0 rfl rfl rfl) rfl rfl hl.1 rfl (lv_room (Nat.le_of_ble_eq_true rfl)) dX11_isLandAndText_2 ⟨by rw [hRc]; exact Nat.le_of_ble_eq_true rfl, by rw [hRs]; exact Nat.le_of_ble_eq_true rfl⟩) hP hD hS hA [0, 1, 2] rfl (fun _ => rfl) ?_
  clear hP hD hS
  clear H locs
  intro v1 _u H locs hw hP hD hS
  rcases hw with ⟨rfl, w2⟩ | ⟨rfl, w3⟩
  · refine lv_if_eq (tgt := 20) hx hb dX11_isLandAndText_5 (by decide) (fun c4 => ?_) (fun c4 => ?_)
    · refine lv_iconst (v := 0) hx hb dX11_isLandAndText_20 (by decide) ?_
      subst hAe
      rw [hQ]
      exact W.zret (v := 0) hx hb hr rfl (fun t ht hW => ⟨⟨0, (), rfl, (Or.inl rfl), by rw [ht]; exact hP, hK.warm hW, hD⟩, hS.F ht⟩) hS.2.2 dX11_isLandAndText_21
    · have q5 := mm_neL (lo := 1) (mm_ne c4) mm_k0 mm_k0 (by decide) (by decide)
      exact mm_no q5 (by decide)
  · refine lv_if_eq (tgt := 20) hx hb dX11_isLandAndText_5 (by decide) (fun c6 => ?_) (fun c6 => ?_)
    · exact mm_eqN c6.symm mm_k0 mm_k1 (by decide)
    · refine lv_aload_n hx hb dX11_isLandAndText_8 rfl (lv_at hl 0 rfl) ?_
      refine lv_iload_n hx hb dX11_isLandAndText_9 rfl (lv_at hl 2 rfl) ?_
      refine mm_finir (va_runV (As := [.int i_1]) (rest := []) ⟨hx, hb, hml, hown, hts⟩ (K347_X11_isText l G cy H.size a_0 i_1 a_1 a_2 a_3 a_4 a_5 a_6 a_7 a_8 a_9 a_10 a_11 a_12 a_13 i_2 i_3 i_4 i_5 i_6 i_7 i_8 i_9 a_14 a_15 a_16 a_17 a_18 a_19 a_20 a_21 a_22 a_23 h1) (cwV 1 hts (mm_gV mm_w600 mm_w601 mm_w602 mm_w2 mm_w603) rfl rfl rfl hd_X11_isText ⟨by rw [hRf]; exact Nat.le_of_ble_eq_true rfl, by rw [hRl]; exact Nat.le_of_ble_eq_true rfl⟩) (mm_preV hK hZ hS hA hP hD [0, 1, 2] rfl rfl 0 rfl rfl rfl) rfl rfl hl.1 rfl (lv_room (Nat.le_of_ble_eq_true rfl)) dX11_isLandAndText_10 ⟨by rw [hRc]; exact Nat.le_of_ble_eq_true rfl, by rw [hRs]; exact Nat.le_of_ble_eq_true rfl⟩) hP hD hS hA [0, 1, 2] rfl (fun _ => rfl) ?_
      clear hP hD hS
      clear H locs
      intro v7 _u H locs hw hP hD hS
      rcases hw with ⟨rfl, w8⟩ | ⟨rfl, w9⟩
      · refine lv_if_eq (tgt := 20) hx hb dX11_isLandAndText_13 (by decide) (fun c10 => ?_) (fun c10 => ?_)
        · refine lv_iconst (v := 0) hx hb dX11_isLandAndText_20 (by decide) ?_
          subst hAe
          rw [hQ]
          exact W.zret (v := 0) hx hb hr rfl (fun t ht hW => ⟨⟨0, (), rfl, (Or.inl rfl), by rw [ht]; exact hP, hK.warm hW, hD⟩, hS.F ht⟩) hS.2.2 dX11_isLandAndText_21
        · have q11 := mm_neL (lo := 1) (mm_ne c10) mm_k0 mm_k0 (by decide) (by decide)
          exact mm_no q11 (by decide)
      · refine lv_if_eq (tgt := 20) hx hb dX11_isLandAndText_13 (by decide) (fun c12 => ?_) (fun c12 => ?_)
        · exact mm_eqN c12.symm mm_k0 mm_k1 (by decide)
        · refine lv_iconst (v := 1) hx hb dX11_isLandAndText_16 (by decide) ?_
          refine lv_goto (tgt := 21) hx hb dX11_isLandAndText_17 (by decide) ?_
          subst hAe
          rw [hQ]
          exact W.zret (v := 1) hx hb hr rfl (fun t ht hW => ⟨⟨1, (), rfl, (Or.inr ⟨rfl, w3, w9⟩), by rw [ht]; exact hP, hK.warm hW, hD⟩, hS.F ht⟩) hS.2.2 dX11_isLandAndText_21

set_option maxHeartbeats 4000000 in
set_option maxRecDepth 100000 in
theorem K389_X8_empty (l : Launch) (G : va_G) (cy : Nat → ClassId) (sz : Nat) (a_0 : Nat) (a_1 : Nat) (i_0 : Int32) (h0 : mm_rg i_0 0 210)  : mm_CV l yX8_empty (mm_ws yX8_empty cX8_empty 1 (none)) ({ frames := 0, cells := 0, slots := 0, locals := 0 } : Room) G cy sz [(a_0, .inr (8, [.ref a_1, .int i_0]))] [.ref a_0] (fun u : Unit => [(a_0, .inr (8, [.ref a_1, .int 0]))]) (fun u : Unit => True) 0 0 := by
  refine mm_begin (lv := [(0, .ref a_0)]) (by decide) (Nat.le_of_ble_eq_true rfl) rfl ?_
  intro p e s m below meth c A ls R args Q H locs hRe hQ hAe hx hb hr hlocks hml hown hnm hts hsz hA hS hP hK hD hZ hl
  have hRf : R.frames = 0 := by rw [hRe]
  have hRl : R.locals = 0 := by rw [hRe]
  have hRc : R.cells = 0 := by rw [hRe]
  have hRs : R.slots = 0 := by rw [hRe]
  refine lv_aload_n hx hb dX8_empty_0 rfl (lv_at hl 0 rfl) ?_
  refine lv_iconst (v := 0) hx hb dX8_empty_1 (by decide) ?_
  refine va_put (D := G) (ci := 8) (v := .int 0) (ty := tyX8 1) (C := RX8) (T := TX8) (N := 2) hx hb hts (mm_i inlX8) tyX8 tyX8_ok nmX8 hown hK.1 hP hD hS 0 rfl rfl 1 (by decide) (mm_h hts mm_w963) (fun _ h9 => h9) rfl (tyX8_ok 1 (by decide)) rfl rfl (Nat.le_of_ble_eq_true rfl) dX8_empty_2 ?_
  clear hP hD hS
  clear H locs
  intro H locs (hP : va_P G vwCl [(a_0, .inr (8, [.ref a_1, .int 0]))] H) (hD : va_D A [(a_0, .inr (8, [.ref a_1, .int 0]))]) hS
  subst hAe
  rw [hQ]
  exact W.vret hx hb hr (fun t ht hW => ⟨⟨(), rfl, trivial, by rw [ht]; exact hP, hK.warm hW, hD⟩, hS.F ht⟩) hS.2.2 dX8_empty_5

set_option maxHeartbeats 4000000 in
set_option maxRecDepth 100000 in
theorem K403_X8_alikeFrom (l : Launch) (G : va_G) (cy : Nat → ClassId) (sz : Nat) (a_0 : Nat) (i_0 : Int32) (a_1 : Nat) (i_1 : Int32) (f_0 : Nat → Int32) (h0 : mm_rg i_0 0 209) (h1 : mm_rg i_1 0 210)  : mm_CI l yX8_alikeFrom (mm_ws yX8_alikeFrom cX8_alikeFrom 4 (some .int)) ({ frames := 0, cells := 0, slots := 0, locals := 0 } : Room) G cy sz [(a_0, .inr (8, [.ref a_1, .int i_1])), (a_1, .inl (cy 1, 210, .inl f_0))] [.ref a_0, .int i_0] (fun u : Unit => [(a_0, .inr (8, [.ref a_1, .int i_1])), (a_1, .inl (cy 1, 210, .inl f_0))]) (fun (r : Int32) (u : Unit) => True) 0 0 := by
  refine mm_begin (lv := [(0, .ref a_0), (1, .int i_0)]) (by decide) (Nat.le_of_ble_eq_true rfl) rfl ?_
  intro p e s m below meth c A ls R args Q H locs hRe hQ hAe hx hb hr hlocks hml hown hnm hts hsz hA hS hP hK hD hZ hl
  have hRf : R.frames = 0 := by rw [hRe]
  have hRl : R.locals = 0 := by rw [hRe]
  have hRc : R.cells = 0 := by rw [hRe]
  have hRs : R.slots = 0 := by rw [hRe]
  refine lv_iconst (v := 0) hx hb dX8_alikeFrom_0 (by decide) ?_
  refine lv_istore_n (lv' := [(2, .int 0), (0, .ref a_0), (1, .int i_0)]) hx hb dX8_alikeFrom_1 rfl hl (by decide) rfl ?_
  clear hl
  clear ls
  intro ls hl
  refine lv_iload_n hx hb dX8_alikeFrom_2 rfl (lv_at hl 2 rfl) ?_
  refine lv_istore_n (lv' := [(3, .int i_0), (2, .int 0), (0, .ref a_0), (1, .int i_0)]) hx hb dX8_alikeFrom_3 rfl hl (by decide) rfl ?_
  clear hl
  clear ls
  intro ls hl
  have L4_208 : ∀ (n : Nat) (x4_3_207 : Int32) (x4_2_208 : Int32), mm_rg x4_3_207 0 210 → (210 - x4_3_207.toInt).toNat < n → ∀ (H : Heap) (locs : List Loc), va_P G vwCl [(a_0, .inr (8, [.ref a_1, .int i_1])), (a_1, .inl (cy 1, 210, .inl f_0))] H → va_D A [(a_0, .inr (8, [.ref a_1, .int i_1])), (a_1, .inl (cy 1, 210, .inl f_0))] → va_S A s.heap H locs → ∀ (ls : Array Slot), lv_has ls 4 [(3, .int x4_3_207), (2, .int x4_2_208), (0, .ref a_0), (1, .int i_0)] → W p l e R s m args below meth c H locs 0 0 Q (F0 m 4 ls []) := by
    intro n
    induction n with
    | zero => intro x4_3_207 x4_2_208 rx4_3_207 hm; exact absurd hm (Nat.not_lt_zero _)
    | succ n ih4 =>
      intro x4_3_207 x4_2_208 rx4_3_207 hm4 H locs hP hD hS ls hl
      refine lv_iload_n hx hb dX8_alikeFrom_4 rfl (lv_at hl 0 rfl) ?_
      refine lv_aload_n hx hb dX8_alikeFrom_5 rfl (lv_at hl 2 rfl) ?_
      refine va_get (D := G) (ci := 8) (v := .int i_1) (C := RX8) (T := TX8) (N := 2) hx hb hts (mm_i inlX8) hown hK.1 hP 0 rfl rfl 1 (by decide) (mm_h hts mm_w963) (fun _ h9 => h9) rfl dX8_alikeFrom_6 ?_
      refine lv_icmp_ge (tgt := 36) hx hb dX8_alikeFrom_9 (by decide) (fun c210 => ?_) (fun c210 => ?_)
      · refine lv_iload_n hx hb dX8_alikeFrom_36 rfl (lv_at hl 1 rfl) ?_
        subst hAe
        rw [hQ]
        exact W.iret (v := x4_2_208) hx hb hr (fun t ht hW => ⟨⟨x4_2_208, (), rfl, trivial, by rw [ht]; exact hP, hK.warm hW, hD⟩, hS.F ht⟩) hS.2.2 dX8_alikeFrom_37
      · have q211 := mm_ltL (h := 209) (mm_nle c210) rx4_3_207 h1 (by decide)
        have q212 := mm_ltR (lo := 1) (mm_nle c210) rx4_3_207 h1 (by decide)
        refine lv_aload_n hx hb dX8_alikeFrom_12 rfl (lv_at hl 2 rfl) ?_
        refine va_get (D := G) (ci := 8) (v := .ref a_1) (C := RX8) (T := TX8) (N := 2) hx hb hts (mm_i inlX8) hown hK.1 hP 0 rfl rfl 0 (by decide) (mm_h hts mm_w108) (fun _ h9 => h9) rfl dX8_alikeFrom_13 ?_
        refine lv_iload_n hx hb dX8_alikeFrom_16 rfl (lv_at hl 0 rfl) ?_
        refine va_iald hx hb hK.1 hP 1 1 rfl rfl (mm_in q211 (by decide)) dX8_alikeFrom_17 ?_
        refine lv_topi (fun v213 ev213 => ?_)
        refine lv_aload_n hx hb dX8_alikeFrom_18 rfl (lv_at hl 2 rfl) ?_
        refine va_get (D := G) (ci := 8) (v := .ref a_1) (C := RX8) (T := TX8) (N := 2) hx hb hts (mm_i inlX8) hown hK.1 hP 0 rfl rfl 0 (by decide) (mm_h hts mm_w108) (fun _ h9 => h9) rfl dX8_alikeFrom_19 ?_
        refine lv_iload_n hx hb dX8_alikeFrom_22 rfl (lv_at hl 3 rfl) ?_
        refine va_iald hx hb hK.1 hP 1 1 rfl rfl (mm_in h0 (by decide)) dX8_alikeFrom_23 ?_
        refine lv_topi (fun v214 ev214 => ?_)
        refine lv_icmp_ne (tgt := 30) hx hb dX8_alikeFrom_24 (by decide) (fun c215 => ?_) (fun c215 => ?_)
        · obtain ⟨v216, ev216⟩ : ∃ y : Int32, y = x4_3_207 + 1 := ⟨_, rfl⟩
          refine lv_iinc (v := v216) (lv' := [(3, .int v216), (2, .int x4_2_208), (0, .ref a_0), (1, .int i_0)]) hx hb dX8_alikeFrom_30 hl (k := 0) rfl (by rw [ev216]; rfl) (by decide) rfl ?_
          clear hl
          clear ls
          intro ls hl
          have rv216 : mm_rg v216 1 210 := mm_add ev216 q211 mm_k1 (by decide) (by decide)
          have tv216 := mm_addEc ev216 q211 mm_k1 (by decide) (k := 1) (by decide)
          refine lv_goto (tgt := 4) hx hb dX8_alikeFrom_33 (by decide) ?_
          exact ih4 v216 x4_2_208 (mm_wk rv216 (by decide)) (mm_mu hm4 tv216 (by decide) (rv216).2 (by decide)) H locs hP hD hS ls (lv_sub hl [0, 1, 2, 3] rfl)
        · obtain ⟨v217, ev217⟩ : ∃ y : Int32, y = x4_2_208 + 1 := ⟨_, rfl⟩
          refine lv_iinc (v := v217) (lv' := [(2, .int v217), (3, .int x4_3_207), (0, .ref a_0), (1, .int i_0)]) hx hb dX8_alikeFrom_27 hl (k := 1) rfl (by rw [ev217]; rfl) (by decide) rfl ?_
          clear hl
          clear ls
          intro ls hl
          obtain ⟨v218, ev218⟩ : ∃ y : Int32, y = x4_3_207 + 1 := ⟨_, rfl⟩
          refine lv_iinc (v := v218) (lv' := [(3, .int v218), (2, .int v217), (0, .ref a_0), (1, .int i_0)]) hx hb dX8_alikeFrom_30 hl (k := 1) rfl (by rw [ev218]; rfl) (by decide) rfl ?_
          clear hl
          clear ls
          intro ls hl
          have rv218 : mm_rg v218 1 210 := mm_add ev218 q211 mm_k1 (by decide) (by decide)
          have tv218 := mm_addEc ev218 q211 mm_k1 (by decide) (k := 1) (by decide)
          refine lv_goto (tgt := 4) hx hb dX8_alikeFrom_33 (by decide) ?_
          exact ih4 v218 v217 (mm_wk rv218 (by decide)) (mm_mu hm4 tv218 (by decide) (rv218).2 (by decide)) H locs hP hD hS ls (lv_sub hl [0, 1, 2, 3] rfl)
  exact L4_208 _ i_0 0 (mm_wk h0 (by decide)) (Nat.lt_succ_self _) H locs hP hD hS ls (lv_sub hl [0, 1, 2, 3] rfl)

set_option maxHeartbeats 4000000 in
set_option maxRecDepth 100000 in
theorem K404_X8_unlike (l : Launch) (G : va_G) (cy : Nat → ClassId) (sz : Nat) (a_0 : Nat) (a_1 : Nat) (i_0 : Int32) (f_0 : Nat → Int32) (h0 : mm_rg i_0 0 210)  : mm_CI l yX8_unlike (mm_ws yX8_unlike cX8_unlike 3 (some .int)) ({ frames := 1, cells := 0, slots := 0, locals := 23 } : Room) G cy sz [(a_0, .inr (8, [.ref a_1, .int i_0])), (a_1, .inl (cy 1, 210, .inl f_0))] [.ref a_0] (fun u : Unit => [(a_0, .inr (8, [.ref a_1, .int i_0])), (a_1, .inl (cy 1, 210, .inl f_0))]) (fun (r : Int32) (u : Unit) => True) 0 0 := by
  refine mm_begin (lv := [(0, .ref a_0)]) (by decide) (Nat.le_of_ble_eq_true rfl) rfl ?_
  intro p e s m below meth c A ls R args Q H locs hRe hQ hAe hx hb hr hlocks hml hown hnm hts hsz hA hS hP hK hD hZ hl
  have hRf : R.frames = 1 := by rw [hRe]
  have hRl : R.locals = 23 := by rw [hRe]
  have hRc : R.cells = 0 := by rw [hRe]
  have hRs : R.slots = 0 := by rw [hRe]
  refine lv_iconst (v := 0) hx hb dX8_unlike_0 (by decide) ?_
  refine lv_istore_n (lv' := [(1, .int 0), (0, .ref a_0)]) hx hb dX8_unlike_1 rfl hl (by decide) rfl ?_
  clear hl
  clear ls
  intro ls hl
  refine lv_iconst (v := 0) hx hb dX8_unlike_2 (by decide) ?_
  refine lv_istore_n (lv' := [(2, .int 0), (1, .int 0), (0, .ref a_0)]) hx hb dX8_unlike_3 rfl hl (by decide) rfl ?_
  clear hl
  clear ls
  intro ls hl
  have L4_215 : ∀ (n : Nat) (x4_2_214 : Int32) (x4_1_215 : Int32), mm_rg x4_2_214 0 210 → (210 - x4_2_214.toInt).toNat < n → ∀ (H : Heap) (locs : List Loc), va_P G vwCl [(a_0, .inr (8, [.ref a_1, .int i_0])), (a_1, .inl (cy 1, 210, .inl f_0))] H → va_D A [(a_0, .inr (8, [.ref a_1, .int i_0])), (a_1, .inl (cy 1, 210, .inl f_0))] → va_S A s.heap H locs → ∀ (ls : Array Slot), lv_has ls 3 [(2, .int x4_2_214), (1, .int x4_1_215), (0, .ref a_0)] → W p l e R s m args below meth c H locs 0 0 Q (F0 m 4 ls []) := by
    intro n
    induction n with
    | zero => intro x4_2_214 x4_1_215 rx4_2_214 hm; exact absurd hm (Nat.not_lt_zero _)
    | succ n ih4 =>
      intro x4_2_214 x4_1_215 rx4_2_214 hm4 H locs hP hD hS ls hl
      refine lv_iload_n hx hb dX8_unlike_4 rfl (lv_at hl 0 rfl) ?_
      refine lv_aload_n hx hb dX8_unlike_5 rfl (lv_at hl 2 rfl) ?_
      refine va_get (D := G) (ci := 8) (v := .int i_0) (C := RX8) (T := TX8) (N := 2) hx hb hts (mm_i inlX8) hown hK.1 hP 0 rfl rfl 1 (by decide) (mm_h hts mm_w963) (fun _ h9 => h9) rfl dX8_unlike_6 ?_
      refine lv_icmp_ge (tgt := 30) hx hb dX8_unlike_9 (by decide) (fun c217 => ?_) (fun c217 => ?_)
      · refine lv_iload_n hx hb dX8_unlike_30 rfl (lv_at hl 1 rfl) ?_
        subst hAe
        rw [hQ]
        exact W.iret (v := x4_1_215) hx hb hr (fun t ht hW => ⟨⟨x4_1_215, (), rfl, trivial, by rw [ht]; exact hP, hK.warm hW, hD⟩, hS.F ht⟩) hS.2.2 dX8_unlike_31
      · have q218 := mm_ltL (h := 209) (mm_nle c217) rx4_2_214 h0 (by decide)
        have q219 := mm_ltR (lo := 1) (mm_nle c217) rx4_2_214 h0 (by decide)
        refine lv_aload_n hx hb dX8_unlike_12 rfl (lv_at hl 2 rfl) ?_
        refine lv_iload_n hx hb dX8_unlike_13 rfl (lv_at hl 0 rfl) ?_
        refine mm_finir (va_runV (As := [.int x4_2_214]) (rest := []) ⟨hx, hb, hml, hown, hts⟩ (K403_X8_alikeFrom l G cy H.size a_0 x4_2_214 a_1 i_0 f_0 q218 (mm_wk q219 (by decide))) (cwV 1 hts (mm_gV mm_w972 mm_w973 mm_w974 mm_w37 mm_w975) rfl rfl rfl hd_X8_alikeFrom ⟨by rw [hRf]; exact Nat.le_of_ble_eq_true rfl, by rw [hRl]; exact Nat.le_of_ble_eq_true rfl⟩) (mm_preV hK hZ hS hA hP hD [0, 1] rfl rfl 0 rfl rfl rfl) rfl rfl hl.1 rfl (lv_room (Nat.le_of_ble_eq_true rfl)) dX8_unlike_14 ⟨by rw [hRc]; exact Nat.le_of_ble_eq_true rfl, by rw [hRs]; exact Nat.le_of_ble_eq_true rfl⟩) hP hD hS hA [0, 1] rfl (fun _ => rfl) ?_
        clear hP hD hS
        clear H locs
        intro v220 _u H locs hw hP hD hS
        refine lv_iconst (v := 1) hx hb dX8_unlike_17 (by decide) ?_
        refine lv_icmp_ne (tgt := 24) hx hb dX8_unlike_18 (by decide) (fun c221 => ?_) (fun c221 => ?_)
        · obtain ⟨v222, ev222⟩ : ∃ y : Int32, y = x4_2_214 + 1 := ⟨_, rfl⟩
          refine lv_iinc (v := v222) (lv' := [(2, .int v222), (1, .int x4_1_215), (0, .ref a_0)]) hx hb dX8_unlike_24 hl (k := 0) rfl (by rw [ev222]; rfl) (by decide) rfl ?_
          clear hl
          clear ls
          intro ls hl
          have rv222 : mm_rg v222 1 210 := mm_add ev222 q218 mm_k1 (by decide) (by decide)
          have tv222 := mm_addEc ev222 q218 mm_k1 (by decide) (k := 1) (by decide)
          refine lv_goto (tgt := 4) hx hb dX8_unlike_27 (by decide) ?_
          exact ih4 v222 x4_1_215 (mm_wk rv222 (by decide)) (mm_mu hm4 tv222 (by decide) (rv222).2 (by decide)) H locs hP hD hS ls (lv_sub hl [0, 1, 2] rfl)
        · have q223 := mm_eqI (lo := 1) (hi := 1) c221 (mm_top v220) mm_k1 (by decide)
          obtain ⟨v224, ev224⟩ : ∃ y : Int32, y = x4_1_215 + 1 := ⟨_, rfl⟩
          refine lv_iinc (v := v224) (lv' := [(1, .int v224), (2, .int x4_2_214), (0, .ref a_0)]) hx hb dX8_unlike_21 hl (k := 1) rfl (by rw [ev224]; rfl) (by decide) rfl ?_
          clear hl
          clear ls
          intro ls hl
          obtain ⟨v225, ev225⟩ : ∃ y : Int32, y = x4_2_214 + 1 := ⟨_, rfl⟩
          refine lv_iinc (v := v225) (lv' := [(2, .int v225), (1, .int v224), (0, .ref a_0)]) hx hb dX8_unlike_24 hl (k := 1) rfl (by rw [ev225]; rfl) (by decide) rfl ?_
          clear hl
          clear ls
          intro ls hl
          have rv225 : mm_rg v225 1 210 := mm_add ev225 q218 mm_k1 (by decide) (by decide)
          have tv225 := mm_addEc ev225 q218 mm_k1 (by decide) (k := 1) (by decide)
          refine lv_goto (tgt := 4) hx hb dX8_unlike_27 (by decide) ?_
          exact ih4 v225 v224 (mm_wk rv225 (by decide)) (mm_mu hm4 tv225 (by decide) (rv225).2 (by decide)) H locs hP hD hS ls (lv_sub hl [0, 1, 2] rfl)
  exact L4_215 _ 0 0 (mm_wk mm_k0 (by decide)) (Nat.lt_succ_self _) H locs hP hD hS ls (lv_sub hl [0, 1, 2] rfl)

set_option maxHeartbeats 4000000 in
set_option maxRecDepth 100000 in
theorem K405_X8_add (l : Launch) (G : va_G) (cy : Nat → ClassId) (sz : Nat) (a_0 : Nat) (i_0 : Int32) (a_1 : Nat) (i_1 : Int32) (f_0 : Nat → Int32) (h0 : mm_rg i_1 0 210)  : mm_CV l yX8_add (mm_ws yX8_add cX8_add 2 (none)) ({ frames := 0, cells := 0, slots := 0, locals := 0 } : Room) G cy sz [(a_0, .inr (8, [.ref a_1, .int i_1])), (a_1, .inl (cy 1, 210, .inl f_0))] [.ref a_0, .int i_0] (fun u : Int32 × (Nat → Int32) => [(a_0, .inr (8, [.ref a_1, .int u.1])), (a_1, .inl (cy 1, 210, .inl u.2))]) (fun u : Int32 × (Nat → Int32) => mm_rg u.1 1 210) 0 0 := by
  refine mm_begin (lv := [(0, .ref a_0), (1, .int i_0)]) (by decide) (Nat.le_of_ble_eq_true rfl) rfl ?_
  intro p e s m below meth c A ls R args Q H locs hRe hQ hAe hx hb hr hlocks hml hown hnm hts hsz hA hS hP hK hD hZ hl
  have hRf : R.frames = 0 := by rw [hRe]
  have hRl : R.locals = 0 := by rw [hRe]
  have hRc : R.cells = 0 := by rw [hRe]
  have hRs : R.slots = 0 := by rw [hRe]
  refine lv_aload_n hx hb dX8_add_0 rfl (lv_at hl 0 rfl) ?_
  refine va_get (D := G) (ci := 8) (v := .int i_1) (C := RX8) (T := TX8) (N := 2) hx hb hts (mm_i inlX8) hown hK.1 hP 0 rfl rfl 1 (by decide) (mm_h hts mm_w963) (fun _ h9 => h9) rfl dX8_add_1 ?_
  refine lv_sipush (v := 210) hx hb dX8_add_4 (by decide) ?_
  refine lv_icmp_ge (tgt := 30) hx hb dX8_add_7 (by decide) (fun c1 => ?_) (fun c1 => ?_)
  · have q2 := mm_leR (mm_le c1) mm_k210 h0
    subst hAe
    rw [hQ]
    exact W.vret hx hb hr (fun t ht hW => ⟨⟨(i_1, f_0), rfl, (mm_wk q2 (by decide)), by rw [ht]; exact hP, hK.warm hW, hD⟩, hS.F ht⟩) hS.2.2 dX8_add_30
  · have q3 := mm_ltL (h := 209) (mm_nle c1) h0 mm_k210 (by decide)
    refine lv_aload_n hx hb dX8_add_10 rfl (lv_at hl 0 rfl) ?_
    refine va_get (D := G) (ci := 8) (v := .ref a_1) (C := RX8) (T := TX8) (N := 2) hx hb hts (mm_i inlX8) hown hK.1 hP 0 rfl rfl 0 (by decide) (mm_h hts mm_w108) (fun _ h9 => h9) rfl dX8_add_11 ?_
    refine lv_aload_n hx hb dX8_add_14 rfl (lv_at hl 0 rfl) ?_
    refine va_get (D := G) (ci := 8) (v := .int i_1) (C := RX8) (T := TX8) (N := 2) hx hb hts (mm_i inlX8) hown hK.1 hP 0 rfl rfl 1 (by decide) (mm_h hts mm_w963) (fun _ h9 => h9) rfl dX8_add_15 ?_
    refine lv_iload_n hx hb dX8_add_18 rfl (lv_at hl 1 rfl) ?_
    refine va_iast hx hb hK.1 hP hD hS 1 1 rfl rfl (mm_in q3 (by decide)) dX8_add_19 ?_
    clear hP hD hS
    clear H locs
    obtain ⟨g4, eg4⟩ : ∃ z : Nat → Int32, z = upd f_0 i_1.toNatClampNeg i_0 := ⟨_, rfl⟩
    rw [← eg4]
    intro H locs (hP : va_P G vwCl [(a_0, .inr (8, [.ref a_1, .int i_1])), (a_1, .inl (cy 1, 210, .inl g4))] H) (hD : va_D A [(a_0, .inr (8, [.ref a_1, .int i_1])), (a_1, .inl (cy 1, 210, .inl g4))]) hS
    refine lv_aload_n hx hb dX8_add_20 rfl (lv_at hl 0 rfl) ?_
    refine lv_dup hx hb dX8_add_21 rfl ?_
    refine va_get (D := G) (ci := 8) (v := .int i_1) (C := RX8) (T := TX8) (N := 2) hx hb hts (mm_i inlX8) hown hK.1 hP 0 rfl rfl 1 (by decide) (mm_h hts mm_w963) (fun _ h9 => h9) rfl dX8_add_22 ?_
    refine lv_iconst (v := 1) hx hb dX8_add_25 (by decide) ?_
    refine lv_iadd hx hb dX8_add_26 ?_
    refine lv_topi (fun v5 ev5 => ?_)
    have rv5 : mm_rg v5 1 210 := mm_add ev5 q3 mm_k1 (by decide) (by decide)
    have tv5 := mm_addEc ev5 q3 mm_k1 (by decide) (k := 1) (by decide)
    refine va_put (D := G) (ci := 8) (v := .int v5) (ty := tyX8 1) (C := RX8) (T := TX8) (N := 2) hx hb hts (mm_i inlX8) tyX8 tyX8_ok nmX8 hown hK.1 hP hD hS 0 rfl rfl 1 (by decide) (mm_h hts mm_w963) (fun _ h9 => h9) rfl (tyX8_ok 1 (by decide)) rfl rfl (Nat.le_of_ble_eq_true rfl) dX8_add_27 ?_
    clear hP hD hS
    clear H locs
    intro H locs (hP : va_P G vwCl [(a_0, .inr (8, [.ref a_1, .int v5])), (a_1, .inl (cy 1, 210, .inl g4))] H) (hD : va_D A [(a_0, .inr (8, [.ref a_1, .int v5])), (a_1, .inl (cy 1, 210, .inl g4))]) hS
    subst hAe
    rw [hQ]
    exact W.vret hx hb hr (fun t ht hW => ⟨⟨(v5, g4), rfl, rv5, by rw [ht]; exact hP, hK.warm hW, hD⟩, hS.F ht⟩) hS.2.2 dX8_add_30

set_option maxHeartbeats 4000000 in
set_option maxRecDepth 100000 in
theorem K406_X11_sorts (l : Launch) (G : va_G) (cy : Nat → ClassId) (sz : Nat) (a_0 : Nat) (i_0 : Int32) (i_1 : Int32) (a_1 : Nat) (a_2 : Nat) (a_3 : Nat) (a_4 : Nat) (a_5 : Nat) (a_6 : Nat) (a_7 : Nat) (a_8 : Nat) (a_9 : Nat) (a_10 : Nat) (a_11 : Nat) (a_12 : Nat) (a_13 : Nat) (i_2 : Int32) (i_3 : Int32) (i_4 : Int32) (i_5 : Int32) (i_6 : Int32) (i_7 : Int32) (i_8 : Int32) (i_9 : Int32) (a_14 : Nat) (a_15 : Nat) (a_16 : Nat) (a_17 : Nat) (a_18 : Nat) (a_19 : Nat) (a_20 : Nat) (a_21 : Nat) (a_22 : Nat) (a_23 : Nat) (f_0 : Nat → Int32) (f_1 : Nat → Int32) (f_2 : Nat → Int32) (f_3 : Nat → Int32) (f_4 : Nat → Int32) (a_24 : Nat) (a_25 : Nat) (a_26 : Nat) (a_27 : Nat) (a_28 : Nat) (i_10 : Int32) (i_11 : Int32) (i_12 : Int32) (f_5 : Nat → Int32) (a_29 : Nat) (a_30 : Nat) (i_13 : Int32) (i_14 : Int32) (i_15 : Int32) (f_6 : Nat → Int32) (a_31 : Nat) (a_32 : Nat) (i_16 : Int32) (i_17 : Int32) (i_18 : Int32) (f_7 : Nat → Int32) (a_33 : Nat) (i_19 : Int32) (f_8 : Nat → Int32) (h0 : mm_rg i_5 0 99) (h1 : mm_rg i_6 0 9) (h2 : mm_rg i_7 0 3) (h3 : mm_rg i_8 0 6) (h4 : mm_ar f_0 (-1) 4) (h5 : mm_ar f_1 0 99) (h6 : mm_ar f_2 0 8) (h7 : mm_ar f_3 0 9) (h8 : mm_ar f_4 0 9) (h9 : mm_rg i_12 (-2147483648) 210) (h10 : mm_ar f_5 0 9) (h11 : mm_rg i_15 (-2147483648) 210) (h12 : mm_ar f_6 0 9) (h13 : mm_rg i_18 (-2147483648) 210) (h14 : mm_ar f_7 0 9) (h15 : mm_rg i_19 0 210)  : mm_CI l yX11_sorts (mm_ws yX11_sorts cX11_sorts 5 (some .int)) ({ frames := 4, cells := 0, slots := 0, locals := 111 } : Room) G cy sz [(a_0, .inr (11, [.ref a_1, .ref a_2, .ref a_3, .ref a_4, .ref a_5, .ref a_6, .ref a_7, .ref a_8, .ref a_9, .ref a_10, .ref a_11])), (a_3, .inr (10, [.ref a_12, .ref a_13])), (a_12, .inr (0, [.int i_2, .int i_3, .int i_4, .int i_5, .int i_6, .int i_7, .int i_8, .int i_9, .ref a_14, .ref a_15, .ref a_16, .ref a_17, .ref a_18, .ref a_19, .ref a_20, .ref a_21, .ref a_22, .ref a_23])), (a_14, .inl (cy 1, 9, .inl f_0)), (a_15, .inl (cy 1, 9, .inl f_1)), (a_18, .inl (cy 1, 6, .inl f_2)), (a_19, .inl (cy 1, 48, .inl f_3)), (a_20, .inl (cy 1, 30, .inl f_4)), (a_13, .inl (cy 5, 3, .inr (.inr (.inr (.inr (va_up (va_up (va_up (fun _ => none) 0 (some a_24)) 1 (some a_25)) 2 (some a_26))))))), (a_24, .inr (1, [.ref a_27, .ref a_28, .int i_10, .int i_11, .int i_12])), (a_27, .inl (cy 1, 2100, .inl f_5)), (a_25, .inr (1, [.ref a_29, .ref a_30, .int i_13, .int i_14, .int i_15])), (a_29, .inl (cy 1, 2100, .inl f_6)), (a_26, .inr (1, [.ref a_31, .ref a_32, .int i_16, .int i_17, .int i_18])), (a_31, .inl (cy 1, 2100, .inl f_7)), (a_7, .inr (8, [.ref a_33, .int i_19])), (a_33, .inl (cy 1, 210, .inl f_8))] [.ref a_0, .int i_0, .int i_1] (fun u : Int32 × (Nat → Int32) => [(a_0, .inr (11, [.ref a_1, .ref a_2, .ref a_3, .ref a_4, .ref a_5, .ref a_6, .ref a_7, .ref a_8, .ref a_9, .ref a_10, .ref a_11])), (a_3, .inr (10, [.ref a_12, .ref a_13])), (a_12, .inr (0, [.int i_2, .int i_3, .int i_4, .int i_5, .int i_6, .int i_7, .int i_8, .int i_9, .ref a_14, .ref a_15, .ref a_16, .ref a_17, .ref a_18, .ref a_19, .ref a_20, .ref a_21, .ref a_22, .ref a_23])), (a_14, .inl (cy 1, 9, .inl f_0)), (a_15, .inl (cy 1, 9, .inl f_1)), (a_18, .inl (cy 1, 6, .inl f_2)), (a_19, .inl (cy 1, 48, .inl f_3)), (a_20, .inl (cy 1, 30, .inl f_4)), (a_13, .inl (cy 5, 3, .inr (.inr (.inr (.inr (va_up (va_up (va_up (fun _ => none) 0 (some a_24)) 1 (some a_25)) 2 (some a_26))))))), (a_24, .inr (1, [.ref a_27, .ref a_28, .int i_10, .int i_11, .int i_12])), (a_27, .inl (cy 1, 2100, .inl f_5)), (a_25, .inr (1, [.ref a_29, .ref a_30, .int i_13, .int i_14, .int i_15])), (a_29, .inl (cy 1, 2100, .inl f_6)), (a_26, .inr (1, [.ref a_31, .ref a_32, .int i_16, .int i_17, .int i_18])), (a_31, .inl (cy 1, 2100, .inl f_7)), (a_7, .inr (8, [.ref a_33, .int u.1])), (a_33, .inl (cy 1, 210, .inl u.2))]) (fun (r : Int32) (u : Int32 × (Nat → Int32)) => mm_rg u.1 0 210 ∧ True) 0 0 := by
  refine mm_begin (lv := [(0, .ref a_0), (1, .int i_0), (2, .int i_1)]) (by decide) (Nat.le_of_ble_eq_true rfl) rfl ?_
  intro p e s m below meth c A ls R args Q H locs hRe hQ hAe hx hb hr hlocks hml hown hnm hts hsz hA hS hP hK hD hZ hl
  have hRf : R.frames = 4 := by rw [hRe]
  have hRl : R.locals = 111 := by rw [hRe]
  have hRc : R.cells = 0 := by rw [hRe]
  have hRs : R.slots = 0 := by rw [hRe]
  refine lv_aload_n hx hb dX11_sorts_0 rfl (lv_at hl 0 rfl) ?_
  refine lv_iload_n hx hb dX11_sorts_1 rfl (lv_at hl 1 rfl) ?_
  refine lv_iload_n hx hb dX11_sorts_2 rfl (lv_at hl 2 rfl) ?_
  refine mm_finir (va_runV (As := [.int i_0, .int i_1]) (rest := []) ⟨hx, hb, hml, hown, hts⟩ (K388_X11_isLandAndText l G cy H.size a_0 i_0 i_1 a_1 a_2 a_3 a_4 a_5 a_6 a_7 a_8 a_9 a_10 a_11 a_12 a_13 i_2 i_3 i_4 i_5 i_6 i_7 i_8 i_9 a_14 a_15 a_16 a_17 a_18 a_19 a_20 a_21 a_22 a_23 h2 h3) (cwV 2 hts (mm_gV mm_w955 mm_w956 mm_w957 mm_w2 mm_w958) rfl rfl rfl hd_X11_isLandAndText ⟨by rw [hRf]; exact Nat.le_of_ble_eq_true rfl, by rw [hRl]; exact Nat.le_of_ble_eq_true rfl⟩) (mm_preV hK hZ hS hA hP hD [0, 1, 2] rfl rfl 0 rfl rfl rfl) rfl rfl hl.1 rfl (lv_room (Nat.le_of_ble_eq_true rfl)) dX11_sorts_3 ⟨by rw [hRc]; exact Nat.le_of_ble_eq_true rfl, by rw [hRs]; exact Nat.le_of_ble_eq_true rfl⟩) hP hD hS hA [0, 1, 2] rfl (fun _ => rfl) ?_
  clear hP hD hS
  clear H locs
  intro v1 _u H locs hw hP hD hS
  rcases hw with rfl | ⟨rfl, w2, w3⟩
  · refine lv_if_ne (tgt := 12) hx hb dX11_sorts_6 (by decide) (fun c4 => ?_) (fun c4 => ?_)
    · have q5 := mm_neL (lo := 1) (mm_ne c4) mm_k0 mm_k0 (by decide) (by decide)
      exact mm_no q5 (by decide)
    · refine lv_bipush (v := (-2)) hx hb dX11_sorts_9 (by decide) ?_
      subst hAe
      rw [hQ]
      exact W.iret (v := (-2)) hx hb hr (fun t ht hW => ⟨⟨(-2), (i_19, f_8), rfl, ⟨h15, trivial⟩, by rw [ht]; exact hP, hK.warm hW, hD⟩, hS.F ht⟩) hS.2.2 dX11_sorts_11
  · refine lv_if_ne (tgt := 12) hx hb dX11_sorts_6 (by decide) (fun c6 => ?_) (fun c6 => ?_)
    · refine lv_aload_n hx hb dX11_sorts_12 rfl (lv_at hl 0 rfl) ?_
      refine va_get (D := G) (ci := 11) (v := .ref a_7) (C := RX11) (T := TX11) (N := 11) hx hb hts (mm_i inlX11) hown hK.1 hP 0 rfl rfl 6 (by decide) (mm_h hts mm_w38) (fun _ h9 => h9) rfl dX11_sorts_13 ?_
      refine mm_finv (va_runV (As := []) (rest := []) ⟨hx, hb, hml, hown, hts⟩ (K389_X8_empty l G cy H.size a_7 a_33 i_19 h15) (cwV 0 hts (mm_gV mm_w959 mm_w960 mm_w961 mm_w37 mm_w962) rfl rfl rfl hd_X8_empty ⟨by rw [hRf]; exact Nat.le_of_ble_eq_true rfl, by rw [hRl]; exact Nat.le_of_ble_eq_true rfl⟩) (mm_preV hK hZ hS hA hP hD [15] rfl rfl 15 rfl rfl rfl) rfl rfl hl.1 rfl (lv_room (Nat.le_of_ble_eq_true rfl)) dX11_sorts_16 ⟨by rw [hRc]; exact Nat.le_of_ble_eq_true rfl, by rw [hRs]; exact Nat.le_of_ble_eq_true rfl⟩) hP hD hS hA (fun u : Unit => [(a_0, .inr (11, [.ref a_1, .ref a_2, .ref a_3, .ref a_4, .ref a_5, .ref a_6, .ref a_7, .ref a_8, .ref a_9, .ref a_10, .ref a_11])), (a_3, .inr (10, [.ref a_12, .ref a_13])), (a_12, .inr (0, [.int i_2, .int i_3, .int i_4, .int i_5, .int i_6, .int i_7, .int i_8, .int i_9, .ref a_14, .ref a_15, .ref a_16, .ref a_17, .ref a_18, .ref a_19, .ref a_20, .ref a_21, .ref a_22, .ref a_23])), (a_14, .inl (cy 1, 9, .inl f_0)), (a_15, .inl (cy 1, 9, .inl f_1)), (a_18, .inl (cy 1, 6, .inl f_2)), (a_19, .inl (cy 1, 48, .inl f_3)), (a_20, .inl (cy 1, 30, .inl f_4)), (a_13, .inl (cy 5, 3, .inr (.inr (.inr (.inr (va_up (va_up (va_up (fun _ => none) 0 (some a_24)) 1 (some a_25)) 2 (some a_26))))))), (a_24, .inr (1, [.ref a_27, .ref a_28, .int i_10, .int i_11, .int i_12])), (a_27, .inl (cy 1, 2100, .inl f_5)), (a_25, .inr (1, [.ref a_29, .ref a_30, .int i_13, .int i_14, .int i_15])), (a_29, .inl (cy 1, 2100, .inl f_6)), (a_26, .inr (1, [.ref a_31, .ref a_32, .int i_16, .int i_17, .int i_18])), (a_31, .inl (cy 1, 2100, .inl f_7)), (a_7, .inr (8, [.ref a_33, .int 0])), (a_33, .inl (cy 1, 210, .inl f_8))]) [15] [0, 1, 2, 3, 4, 5, 6, 7, 8, 9, 10, 11, 12, 13, 14, 16] (n := 17) (fun _ => rfl) (by decide +kernel) (by decide +kernel) rfl (fun _ => rfl) (wr := [(a_0, .inr (11, [.ref a_1, .ref a_2, .ref a_3, .ref a_4, .ref a_5, .ref a_6, .ref a_7, .ref a_8, .ref a_9, .ref a_10, .ref a_11])), (a_3, .inr (10, [.ref a_12, .ref a_13])), (a_12, .inr (0, [.int i_2, .int i_3, .int i_4, .int i_5, .int i_6, .int i_7, .int i_8, .int i_9, .ref a_14, .ref a_15, .ref a_16, .ref a_17, .ref a_18, .ref a_19, .ref a_20, .ref a_21, .ref a_22, .ref a_23])), (a_14, .inl (cy 1, 9, .inl f_0)), (a_15, .inl (cy 1, 9, .inl f_1)), (a_18, .inl (cy 1, 6, .inl f_2)), (a_19, .inl (cy 1, 48, .inl f_3)), (a_20, .inl (cy 1, 30, .inl f_4)), (a_13, .inl (cy 5, 3, .inr (.inr (.inr (.inr (va_up (va_up (va_up (fun _ => none) 0 (some a_24)) 1 (some a_25)) 2 (some a_26))))))), (a_24, .inr (1, [.ref a_27, .ref a_28, .int i_10, .int i_11, .int i_12])), (a_27, .inl (cy 1, 2100, .inl f_5)), (a_25, .inr (1, [.ref a_29, .ref a_30, .int i_13, .int i_14, .int i_15])), (a_29, .inl (cy 1, 2100, .inl f_6)), (a_26, .inr (1, [.ref a_31, .ref a_32, .int i_16, .int i_17, .int i_18])), (a_31, .inl (cy 1, 2100, .inl f_7)), (a_33, .inl (cy 1, 210, .inl f_8))]) rfl (fun _ => rfl) (fun _ => rfl) ?_
      clear hP hD hS
      clear H locs
      intro _u H locs hw (hP : va_P G vwCl [(a_0, .inr (11, [.ref a_1, .ref a_2, .ref a_3, .ref a_4, .ref a_5, .ref a_6, .ref a_7, .ref a_8, .ref a_9, .ref a_10, .ref a_11])), (a_3, .inr (10, [.ref a_12, .ref a_13])), (a_12, .inr (0, [.int i_2, .int i_3, .int i_4, .int i_5, .int i_6, .int i_7, .int i_8, .int i_9, .ref a_14, .ref a_15, .ref a_16, .ref a_17, .ref a_18, .ref a_19, .ref a_20, .ref a_21, .ref a_22, .ref a_23])), (a_14, .inl (cy 1, 9, .inl f_0)), (a_15, .inl (cy 1, 9, .inl f_1)), (a_18, .inl (cy 1, 6, .inl f_2)), (a_19, .inl (cy 1, 48, .inl f_3)), (a_20, .inl (cy 1, 30, .inl f_4)), (a_13, .inl (cy 5, 3, .inr (.inr (.inr (.inr (va_up (va_up (va_up (fun _ => none) 0 (some a_24)) 1 (some a_25)) 2 (some a_26))))))), (a_24, .inr (1, [.ref a_27, .ref a_28, .int i_10, .int i_11, .int i_12])), (a_27, .inl (cy 1, 2100, .inl f_5)), (a_25, .inr (1, [.ref a_29, .ref a_30, .int i_13, .int i_14, .int i_15])), (a_29, .inl (cy 1, 2100, .inl f_6)), (a_26, .inr (1, [.ref a_31, .ref a_32, .int i_16, .int i_17, .int i_18])), (a_31, .inl (cy 1, 2100, .inl f_7)), (a_7, .inr (8, [.ref a_33, .int 0])), (a_33, .inl (cy 1, 210, .inl f_8))] H) (hD : va_D A [(a_0, .inr (11, [.ref a_1, .ref a_2, .ref a_3, .ref a_4, .ref a_5, .ref a_6, .ref a_7, .ref a_8, .ref a_9, .ref a_10, .ref a_11])), (a_3, .inr (10, [.ref a_12, .ref a_13])), (a_12, .inr (0, [.int i_2, .int i_3, .int i_4, .int i_5, .int i_6, .int i_7, .int i_8, .int i_9, .ref a_14, .ref a_15, .ref a_16, .ref a_17, .ref a_18, .ref a_19, .ref a_20, .ref a_21, .ref a_22, .ref a_23])), (a_14, .inl (cy 1, 9, .inl f_0)), (a_15, .inl (cy 1, 9, .inl f_1)), (a_18, .inl (cy 1, 6, .inl f_2)), (a_19, .inl (cy 1, 48, .inl f_3)), (a_20, .inl (cy 1, 30, .inl f_4)), (a_13, .inl (cy 5, 3, .inr (.inr (.inr (.inr (va_up (va_up (va_up (fun _ => none) 0 (some a_24)) 1 (some a_25)) 2 (some a_26))))))), (a_24, .inr (1, [.ref a_27, .ref a_28, .int i_10, .int i_11, .int i_12])), (a_27, .inl (cy 1, 2100, .inl f_5)), (a_25, .inr (1, [.ref a_29, .ref a_30, .int i_13, .int i_14, .int i_15])), (a_29, .inl (cy 1, 2100, .inl f_6)), (a_26, .inr (1, [.ref a_31, .ref a_32, .int i_16, .int i_17, .int i_18])), (a_31, .inl (cy 1, 2100, .inl f_7)), (a_7, .inr (8, [.ref a_33, .int 0])), (a_33, .inl (cy 1, 210, .inl f_8))]) hS
      refine lv_aload_n hx hb dX11_sorts_19 rfl (lv_at hl 0 rfl) ?_
      refine va_get (D := G) (ci := 11) (v := .ref a_3) (C := RX11) (T := TX11) (N := 11) hx hb hts (mm_i inlX11) hown hK.1 hP 0 rfl rfl 2 (by decide) (mm_h hts mm_w24) (fun _ h9 => h9) rfl dX11_sorts_20 ?_
      refine lv_iload_n hx hb dX11_sorts_23 rfl (lv_at hl 1 rfl) ?_
      refine mm_finir (va_runV (As := [.int i_0]) (rest := []) ⟨hx, hb, hml, hown, hts⟩ (K360_X10_period l G cy H.size a_3 i_0 a_12 a_13 a_24 a_25 a_26 a_27 a_28 i_10 i_11 i_12 a_29 a_30 i_13 i_14 i_15 a_31 a_32 i_16 i_17 i_18 w2 h9 h11 h13) (cwV 1 hts (mm_gV mm_w743 mm_w744 mm_w745 mm_w23 mm_w746) rfl rfl rfl hd_X10_period ⟨by rw [hRf]; exact Nat.le_of_ble_eq_true rfl, by rw [hRl]; exact Nat.le_of_ble_eq_true rfl⟩) (mm_preV hK hZ hS hA hP hD [1, 8, 9, 11, 13] rfl rfl 1 rfl rfl rfl) rfl rfl hl.1 rfl (lv_room (Nat.le_of_ble_eq_true rfl)) dX11_sorts_24 ⟨by rw [hRc]; exact Nat.le_of_ble_eq_true rfl, by rw [hRs]; exact Nat.le_of_ble_eq_true rfl⟩) hP hD hS hA [1, 8, 9, 11, 13] rfl (fun _ => rfl) ?_
      clear hP hD hS
      clear H locs
      intro v7 _u H locs hw hP hD hS
      have w8 := hw
      refine lv_istore_n (lv' := [(3, .int v7), (0, .ref a_0), (1, .int i_0), (2, .int i_1)]) hx hb dX11_sorts_27 rfl hl (by decide) rfl ?_
      clear hl
      clear ls
      intro ls hl
      refine lv_iconst (v := 0) hx hb dX11_sorts_28 (by decide) ?_
      refine lv_istore (lv' := [(4, .int 0), (3, .int v7), (0, .ref a_0), (1, .int i_0), (2, .int i_1)]) hx hb dX11_sorts_29 hl (by decide) rfl ?_
      clear hl
      clear ls
      intro ls hl
      have L31_154 : ∀ (n : Nat) (x31_4_152 : Int32) (y31_15_1_153 : Int32) (z31_16_154 : Nat → Int32), mm_rg x31_4_152 0 210 → mm_rg y31_15_1_153 0 210 → (210 - x31_4_152.toInt).toNat < n → ∀ (H : Heap) (locs : List Loc), va_P G vwCl [(a_0, .inr (11, [.ref a_1, .ref a_2, .ref a_3, .ref a_4, .ref a_5, .ref a_6, .ref a_7, .ref a_8, .ref a_9, .ref a_10, .ref a_11])), (a_3, .inr (10, [.ref a_12, .ref a_13])), (a_12, .inr (0, [.int i_2, .int i_3, .int i_4, .int i_5, .int i_6, .int i_7, .int i_8, .int i_9, .ref a_14, .ref a_15, .ref a_16, .ref a_17, .ref a_18, .ref a_19, .ref a_20, .ref a_21, .ref a_22, .ref a_23])), (a_14, .inl (cy 1, 9, .inl f_0)), (a_15, .inl (cy 1, 9, .inl f_1)), (a_18, .inl (cy 1, 6, .inl f_2)), (a_19, .inl (cy 1, 48, .inl f_3)), (a_20, .inl (cy 1, 30, .inl f_4)), (a_13, .inl (cy 5, 3, .inr (.inr (.inr (.inr (va_up (va_up (va_up (fun _ => none) 0 (some a_24)) 1 (some a_25)) 2 (some a_26))))))), (a_24, .inr (1, [.ref a_27, .ref a_28, .int i_10, .int i_11, .int i_12])), (a_27, .inl (cy 1, 2100, .inl f_5)), (a_25, .inr (1, [.ref a_29, .ref a_30, .int i_13, .int i_14, .int i_15])), (a_29, .inl (cy 1, 2100, .inl f_6)), (a_26, .inr (1, [.ref a_31, .ref a_32, .int i_16, .int i_17, .int i_18])), (a_31, .inl (cy 1, 2100, .inl f_7)), (a_7, .inr (8, [.ref a_33, .int y31_15_1_153])), (a_33, .inl (cy 1, 210, .inl z31_16_154))] H → va_D A [(a_0, .inr (11, [.ref a_1, .ref a_2, .ref a_3, .ref a_4, .ref a_5, .ref a_6, .ref a_7, .ref a_8, .ref a_9, .ref a_10, .ref a_11])), (a_3, .inr (10, [.ref a_12, .ref a_13])), (a_12, .inr (0, [.int i_2, .int i_3, .int i_4, .int i_5, .int i_6, .int i_7, .int i_8, .int i_9, .ref a_14, .ref a_15, .ref a_16, .ref a_17, .ref a_18, .ref a_19, .ref a_20, .ref a_21, .ref a_22, .ref a_23])), (a_14, .inl (cy 1, 9, .inl f_0)), (a_15, .inl (cy 1, 9, .inl f_1)), (a_18, .inl (cy 1, 6, .inl f_2)), (a_19, .inl (cy 1, 48, .inl f_3)), (a_20, .inl (cy 1, 30, .inl f_4)), (a_13, .inl (cy 5, 3, .inr (.inr (.inr (.inr (va_up (va_up (va_up (fun _ => none) 0 (some a_24)) 1 (some a_25)) 2 (some a_26))))))), (a_24, .inr (1, [.ref a_27, .ref a_28, .int i_10, .int i_11, .int i_12])), (a_27, .inl (cy 1, 2100, .inl f_5)), (a_25, .inr (1, [.ref a_29, .ref a_30, .int i_13, .int i_14, .int i_15])), (a_29, .inl (cy 1, 2100, .inl f_6)), (a_26, .inr (1, [.ref a_31, .ref a_32, .int i_16, .int i_17, .int i_18])), (a_31, .inl (cy 1, 2100, .inl f_7)), (a_7, .inr (8, [.ref a_33, .int y31_15_1_153])), (a_33, .inl (cy 1, 210, .inl z31_16_154))] → va_S A s.heap H locs → ∀ (ls : Array Slot), lv_has ls 5 [(4, .int x31_4_152), (3, .int v7), (0, .ref a_0), (1, .int i_0), (2, .int i_1)] → W p l e R s m args below meth c H locs 0 0 Q (F0 m 31 ls []) := by
        intro n
        induction n with
        | zero => intro x31_4_152 y31_15_1_153 z31_16_154 rx31_4_152 ry31_15_1_153 hm; exact absurd hm (Nat.not_lt_zero _)
        | succ n ih31 =>
          intro x31_4_152 y31_15_1_153 z31_16_154 rx31_4_152 ry31_15_1_153 hm31 H locs hP hD hS ls hl
          refine lv_iload hx hb dX11_sorts_31 (lv_at hl 0 rfl) ?_
          refine lv_iload_n hx hb dX11_sorts_33 rfl (lv_at hl 1 rfl) ?_
          refine lv_icmp_ge (tgt := 61) hx hb dX11_sorts_34 (by decide) (fun c156 => ?_) (fun c156 => ?_)
          · refine lv_aload_n hx hb dX11_sorts_61 rfl (lv_at hl 2 rfl) ?_
            refine va_get (D := G) (ci := 11) (v := .ref a_7) (C := RX11) (T := TX11) (N := 11) hx hb hts (mm_i inlX11) hown hK.1 hP 0 rfl rfl 6 (by decide) (mm_h hts mm_w38) (fun _ h9 => h9) rfl dX11_sorts_62 ?_
            refine mm_finir (va_runV (As := []) (rest := []) ⟨hx, hb, hml, hown, hts⟩ (K404_X8_unlike l G cy H.size a_7 a_33 y31_15_1_153 z31_16_154 ry31_15_1_153) (cwV 0 hts (mm_gV mm_w968 mm_w969 mm_w970 mm_w37 mm_w971) rfl rfl rfl hd_X8_unlike ⟨by rw [hRf]; exact Nat.le_of_ble_eq_true rfl, by rw [hRl]; exact Nat.le_of_ble_eq_true rfl⟩) (mm_preV hK hZ hS hA hP hD [15, 16] rfl rfl 15 rfl rfl rfl) rfl rfl hl.1 rfl (lv_room (Nat.le_of_ble_eq_true rfl)) dX11_sorts_65 ⟨by rw [hRc]; exact Nat.le_of_ble_eq_true rfl, by rw [hRs]; exact Nat.le_of_ble_eq_true rfl⟩) hP hD hS hA [15, 16] rfl (fun _ => rfl) ?_
            clear hP hD hS
            clear H locs
            intro v157 _u H locs hw hP hD hS
            subst hAe
            rw [hQ]
            exact W.iret (v := v157) hx hb hr (fun t ht hW => ⟨⟨v157, (y31_15_1_153, z31_16_154), rfl, ⟨ry31_15_1_153, trivial⟩, by rw [ht]; exact hP, hK.warm hW, hD⟩, hS.F ht⟩) hS.2.2 dX11_sorts_68
          · have q158 := mm_ltL (h := 209) (mm_nle c156) rx31_4_152 w8 (by decide)
            have q159 := mm_ltR (lo := 1) (mm_nle c156) rx31_4_152 w8 (by decide)
            refine lv_aload_n hx hb dX11_sorts_37 rfl (lv_at hl 2 rfl) ?_
            refine va_get (D := G) (ci := 11) (v := .ref a_7) (C := RX11) (T := TX11) (N := 11) hx hb hts (mm_i inlX11) hown hK.1 hP 0 rfl rfl 6 (by decide) (mm_h hts mm_w38) (fun _ h9 => h9) rfl dX11_sorts_38 ?_
            refine lv_aload_n hx hb dX11_sorts_41 rfl (lv_at hl 2 rfl) ?_
            refine va_get (D := G) (ci := 11) (v := .ref a_3) (C := RX11) (T := TX11) (N := 11) hx hb hts (mm_i inlX11) hown hK.1 hP 0 rfl rfl 2 (by decide) (mm_h hts mm_w24) (fun _ h9 => h9) rfl dX11_sorts_42 ?_
            refine lv_iload_n hx hb dX11_sorts_45 rfl (lv_at hl 3 rfl) ?_
            refine lv_iload hx hb dX11_sorts_46 (lv_at hl 0 rfl) ?_
            refine lv_iload_n hx hb dX11_sorts_48 rfl (lv_at hl 4 rfl) ?_
            refine mm_finir (va_runV (As := [.int i_0, .int x31_4_152, .int i_1]) (rest := [.ref a_7]) ⟨hx, hb, hml, hown, hts⟩ (K374_X10_leaving l G cy H.size a_3 i_0 x31_4_152 i_1 a_12 a_13 i_2 i_3 i_4 i_5 i_6 i_7 i_8 i_9 a_14 a_15 a_16 a_17 a_18 a_19 a_20 a_21 a_22 a_23 f_0 f_1 f_2 f_3 f_4 a_24 a_25 a_26 a_27 a_28 i_10 i_11 i_12 f_5 a_29 a_30 i_13 i_14 i_15 f_6 a_31 a_32 i_16 i_17 i_18 f_7 w2 (mm_wk q158 (by decide)) w3 h0 h1 h4 h5 h6 h7 h8 h9 h10 h11 h12 h13 h14) (cwV 3 hts (mm_gV mm_w829 mm_w830 mm_w831 mm_w23 mm_w832) rfl rfl rfl hd_X10_leaving ⟨by rw [hRf]; exact Nat.le_of_ble_eq_true rfl, by rw [hRl]; exact Nat.le_of_ble_eq_true rfl⟩) (mm_preV hK hZ hS hA hP hD [1, 2, 3, 4, 5, 6, 7, 8, 9, 10, 11, 12, 13, 14] rfl rfl 1 rfl rfl rfl) rfl rfl hl.1 rfl (lv_room (Nat.le_of_ble_eq_true rfl)) dX11_sorts_49 ⟨by rw [hRc]; exact Nat.le_of_ble_eq_true rfl, by rw [hRs]; exact Nat.le_of_ble_eq_true rfl⟩) hP hD hS hA [1, 2, 3, 4, 5, 6, 7, 8, 9, 10, 11, 12, 13, 14] rfl (fun _ => rfl) ?_
            clear hP hD hS
            clear H locs
            intro v160 _u H locs hw hP hD hS
            refine mm_finv (va_runV (As := [.int v160]) (rest := []) ⟨hx, hb, hml, hown, hts⟩ (K405_X8_add l G cy H.size a_7 v160 a_33 y31_15_1_153 z31_16_154 ry31_15_1_153) (cwV 1 hts (mm_gV mm_w964 mm_w965 mm_w966 mm_w37 mm_w967) rfl rfl rfl hd_X8_add ⟨by rw [hRf]; exact Nat.le_of_ble_eq_true rfl, by rw [hRl]; exact Nat.le_of_ble_eq_true rfl⟩) (mm_preV hK hZ hS hA hP hD [15, 16] rfl rfl 15 rfl rfl rfl) rfl rfl hl.1 rfl (lv_room (Nat.le_of_ble_eq_true rfl)) dX11_sorts_52 ⟨by rw [hRc]; exact Nat.le_of_ble_eq_true rfl, by rw [hRs]; exact Nat.le_of_ble_eq_true rfl⟩) hP hD hS hA (fun u : Int32 × (Nat → Int32) => [(a_0, .inr (11, [.ref a_1, .ref a_2, .ref a_3, .ref a_4, .ref a_5, .ref a_6, .ref a_7, .ref a_8, .ref a_9, .ref a_10, .ref a_11])), (a_3, .inr (10, [.ref a_12, .ref a_13])), (a_12, .inr (0, [.int i_2, .int i_3, .int i_4, .int i_5, .int i_6, .int i_7, .int i_8, .int i_9, .ref a_14, .ref a_15, .ref a_16, .ref a_17, .ref a_18, .ref a_19, .ref a_20, .ref a_21, .ref a_22, .ref a_23])), (a_14, .inl (cy 1, 9, .inl f_0)), (a_15, .inl (cy 1, 9, .inl f_1)), (a_18, .inl (cy 1, 6, .inl f_2)), (a_19, .inl (cy 1, 48, .inl f_3)), (a_20, .inl (cy 1, 30, .inl f_4)), (a_13, .inl (cy 5, 3, .inr (.inr (.inr (.inr (va_up (va_up (va_up (fun _ => none) 0 (some a_24)) 1 (some a_25)) 2 (some a_26))))))), (a_24, .inr (1, [.ref a_27, .ref a_28, .int i_10, .int i_11, .int i_12])), (a_27, .inl (cy 1, 2100, .inl f_5)), (a_25, .inr (1, [.ref a_29, .ref a_30, .int i_13, .int i_14, .int i_15])), (a_29, .inl (cy 1, 2100, .inl f_6)), (a_26, .inr (1, [.ref a_31, .ref a_32, .int i_16, .int i_17, .int i_18])), (a_31, .inl (cy 1, 2100, .inl f_7)), (a_7, .inr (8, [.ref a_33, .int u.1])), (a_33, .inl (cy 1, 210, .inl u.2))]) [15, 16] [0, 1, 2, 3, 4, 5, 6, 7, 8, 9, 10, 11, 12, 13, 14] (n := 17) (fun _ => rfl) (by decide +kernel) (by decide +kernel) rfl (fun _ => rfl) (wr := [(a_0, .inr (11, [.ref a_1, .ref a_2, .ref a_3, .ref a_4, .ref a_5, .ref a_6, .ref a_7, .ref a_8, .ref a_9, .ref a_10, .ref a_11])), (a_3, .inr (10, [.ref a_12, .ref a_13])), (a_12, .inr (0, [.int i_2, .int i_3, .int i_4, .int i_5, .int i_6, .int i_7, .int i_8, .int i_9, .ref a_14, .ref a_15, .ref a_16, .ref a_17, .ref a_18, .ref a_19, .ref a_20, .ref a_21, .ref a_22, .ref a_23])), (a_14, .inl (cy 1, 9, .inl f_0)), (a_15, .inl (cy 1, 9, .inl f_1)), (a_18, .inl (cy 1, 6, .inl f_2)), (a_19, .inl (cy 1, 48, .inl f_3)), (a_20, .inl (cy 1, 30, .inl f_4)), (a_13, .inl (cy 5, 3, .inr (.inr (.inr (.inr (va_up (va_up (va_up (fun _ => none) 0 (some a_24)) 1 (some a_25)) 2 (some a_26))))))), (a_24, .inr (1, [.ref a_27, .ref a_28, .int i_10, .int i_11, .int i_12])), (a_27, .inl (cy 1, 2100, .inl f_5)), (a_25, .inr (1, [.ref a_29, .ref a_30, .int i_13, .int i_14, .int i_15])), (a_29, .inl (cy 1, 2100, .inl f_6)), (a_26, .inr (1, [.ref a_31, .ref a_32, .int i_16, .int i_17, .int i_18])), (a_31, .inl (cy 1, 2100, .inl f_7))]) rfl (fun _ => rfl) (fun _ => rfl) ?_
            clear hP hD hS
            clear H locs
            intro u
            obtain ⟨n161, n162⟩ := u
            intro H locs hw (hP : va_P G vwCl [(a_0, .inr (11, [.ref a_1, .ref a_2, .ref a_3, .ref a_4, .ref a_5, .ref a_6, .ref a_7, .ref a_8, .ref a_9, .ref a_10, .ref a_11])), (a_3, .inr (10, [.ref a_12, .ref a_13])), (a_12, .inr (0, [.int i_2, .int i_3, .int i_4, .int i_5, .int i_6, .int i_7, .int i_8, .int i_9, .ref a_14, .ref a_15, .ref a_16, .ref a_17, .ref a_18, .ref a_19, .ref a_20, .ref a_21, .ref a_22, .ref a_23])), (a_14, .inl (cy 1, 9, .inl f_0)), (a_15, .inl (cy 1, 9, .inl f_1)), (a_18, .inl (cy 1, 6, .inl f_2)), (a_19, .inl (cy 1, 48, .inl f_3)), (a_20, .inl (cy 1, 30, .inl f_4)), (a_13, .inl (cy 5, 3, .inr (.inr (.inr (.inr (va_up (va_up (va_up (fun _ => none) 0 (some a_24)) 1 (some a_25)) 2 (some a_26))))))), (a_24, .inr (1, [.ref a_27, .ref a_28, .int i_10, .int i_11, .int i_12])), (a_27, .inl (cy 1, 2100, .inl f_5)), (a_25, .inr (1, [.ref a_29, .ref a_30, .int i_13, .int i_14, .int i_15])), (a_29, .inl (cy 1, 2100, .inl f_6)), (a_26, .inr (1, [.ref a_31, .ref a_32, .int i_16, .int i_17, .int i_18])), (a_31, .inl (cy 1, 2100, .inl f_7)), (a_7, .inr (8, [.ref a_33, .int n161])), (a_33, .inl (cy 1, 210, .inl n162))] H) (hD : va_D A [(a_0, .inr (11, [.ref a_1, .ref a_2, .ref a_3, .ref a_4, .ref a_5, .ref a_6, .ref a_7, .ref a_8, .ref a_9, .ref a_10, .ref a_11])), (a_3, .inr (10, [.ref a_12, .ref a_13])), (a_12, .inr (0, [.int i_2, .int i_3, .int i_4, .int i_5, .int i_6, .int i_7, .int i_8, .int i_9, .ref a_14, .ref a_15, .ref a_16, .ref a_17, .ref a_18, .ref a_19, .ref a_20, .ref a_21, .ref a_22, .ref a_23])), (a_14, .inl (cy 1, 9, .inl f_0)), (a_15, .inl (cy 1, 9, .inl f_1)), (a_18, .inl (cy 1, 6, .inl f_2)), (a_19, .inl (cy 1, 48, .inl f_3)), (a_20, .inl (cy 1, 30, .inl f_4)), (a_13, .inl (cy 5, 3, .inr (.inr (.inr (.inr (va_up (va_up (va_up (fun _ => none) 0 (some a_24)) 1 (some a_25)) 2 (some a_26))))))), (a_24, .inr (1, [.ref a_27, .ref a_28, .int i_10, .int i_11, .int i_12])), (a_27, .inl (cy 1, 2100, .inl f_5)), (a_25, .inr (1, [.ref a_29, .ref a_30, .int i_13, .int i_14, .int i_15])), (a_29, .inl (cy 1, 2100, .inl f_6)), (a_26, .inr (1, [.ref a_31, .ref a_32, .int i_16, .int i_17, .int i_18])), (a_31, .inl (cy 1, 2100, .inl f_7)), (a_7, .inr (8, [.ref a_33, .int n161])), (a_33, .inl (cy 1, 210, .inl n162))]) hS
            have w163 := hw
            obtain ⟨v164, ev164⟩ : ∃ y : Int32, y = x31_4_152 + 1 := ⟨_, rfl⟩
            refine lv_iinc (v := v164) (lv' := [(4, .int v164), (3, .int v7), (0, .ref a_0), (1, .int i_0), (2, .int i_1)]) hx hb dX11_sorts_55 hl (k := 0) rfl (by rw [ev164]; rfl) (by decide) rfl ?_
            clear hl
            clear ls
            intro ls hl
            have rv164 : mm_rg v164 1 210 := mm_add ev164 q158 mm_k1 (by decide) (by decide)
            have tv164 := mm_addEc ev164 q158 mm_k1 (by decide) (k := 1) (by decide)
            refine lv_goto (tgt := 31) hx hb dX11_sorts_58 (by decide) ?_
            exact ih31 v164 n161 n162 (mm_wk rv164 (by decide)) (mm_wk w163 (by decide)) (mm_mu hm31 tv164 (by decide) (rv164).2 (by decide)) H locs hP hD hS ls (lv_sub hl [0, 1, 2, 3, 4] rfl)
      exact L31_154 _ 0 0 f_8 (mm_wk mm_k0 (by decide)) (mm_wk mm_k0 (by decide)) (Nat.lt_succ_self _) H locs hP hD hS ls (lv_sub hl [0, 1, 2, 3, 4] rfl)
    · exact mm_eqN c6.symm mm_k0 mm_k1 (by decide)

set_option maxHeartbeats 4000000 in
set_option maxRecDepth 100000 in
theorem K407_X10_isClear (l : Launch) (G : va_G) (cy : Nat → ClassId) (sz : Nat) (a_0 : Nat) (i_0 : Int32) (i_1 : Int32) (i_2 : Int32) (a_1 : Nat) (a_2 : Nat) (i_3 : Int32) (i_4 : Int32) (i_5 : Int32) (i_6 : Int32) (i_7 : Int32) (i_8 : Int32) (i_9 : Int32) (i_10 : Int32) (a_3 : Nat) (a_4 : Nat) (a_5 : Nat) (a_6 : Nat) (a_7 : Nat) (a_8 : Nat) (a_9 : Nat) (a_10 : Nat) (a_11 : Nat) (a_12 : Nat) (f_0 : Nat → Int32) (f_1 : Nat → Int32) (f_2 : Nat → Int32) (a_13 : Nat) (a_14 : Nat) (a_15 : Nat) (a_16 : Nat) (a_17 : Nat) (i_11 : Int32) (i_12 : Int32) (i_13 : Int32) (f_3 : Nat → Int32) (a_18 : Nat) (a_19 : Nat) (i_14 : Int32) (i_15 : Int32) (i_16 : Int32) (f_4 : Nat → Int32) (a_20 : Nat) (a_21 : Nat) (i_17 : Int32) (i_18 : Int32) (i_19 : Int32) (f_5 : Nat → Int32) (h0 : mm_rg i_0 0 2) (h1 : mm_rg i_1 0 2147483647) (h2 : mm_rg i_2 0 5) (h3 : mm_rg i_7 0 9) (h4 : mm_ar f_0 0 8) (h5 : mm_ar f_1 0 9) (h6 : mm_ar f_2 0 9) (h7 : mm_rg i_13 (-2147483648) 210) (h8 : mm_ar f_3 0 9) (h9 : mm_rg i_16 (-2147483648) 210) (h10 : mm_ar f_4 0 9) (h11 : mm_rg i_19 (-2147483648) 210) (h12 : mm_ar f_5 0 9)  : mm_CI l yX10_isClear (mm_ws yX10_isClear cX10_isClear 7 (some .boolean)) ({ frames := 2, cells := 0, slots := 0, locals := 45 } : Room) G cy sz [(a_0, .inr (10, [.ref a_1, .ref a_2])), (a_1, .inr (0, [.int i_3, .int i_4, .int i_5, .int i_6, .int i_7, .int i_8, .int i_9, .int i_10, .ref a_3, .ref a_4, .ref a_5, .ref a_6, .ref a_7, .ref a_8, .ref a_9, .ref a_10, .ref a_11, .ref a_12])), (a_7, .inl (cy 1, 6, .inl f_0)), (a_8, .inl (cy 1, 48, .inl f_1)), (a_9, .inl (cy 1, 30, .inl f_2)), (a_2, .inl (cy 5, 3, .inr (.inr (.inr (.inr (va_up (va_up (va_up (fun _ => none) 0 (some a_13)) 1 (some a_14)) 2 (some a_15))))))), (a_13, .inr (1, [.ref a_16, .ref a_17, .int i_11, .int i_12, .int i_13])), (a_16, .inl (cy 1, 2100, .inl f_3)), (a_14, .inr (1, [.ref a_18, .ref a_19, .int i_14, .int i_15, .int i_16])), (a_18, .inl (cy 1, 2100, .inl f_4)), (a_15, .inr (1, [.ref a_20, .ref a_21, .int i_17, .int i_18, .int i_19])), (a_20, .inl (cy 1, 2100, .inl f_5))] [.ref a_0, .int i_0, .int i_1, .int i_2] (fun u : Unit => [(a_0, .inr (10, [.ref a_1, .ref a_2])), (a_1, .inr (0, [.int i_3, .int i_4, .int i_5, .int i_6, .int i_7, .int i_8, .int i_9, .int i_10, .ref a_3, .ref a_4, .ref a_5, .ref a_6, .ref a_7, .ref a_8, .ref a_9, .ref a_10, .ref a_11, .ref a_12])), (a_7, .inl (cy 1, 6, .inl f_0)), (a_8, .inl (cy 1, 48, .inl f_1)), (a_9, .inl (cy 1, 30, .inl f_2)), (a_2, .inl (cy 5, 3, .inr (.inr (.inr (.inr (va_up (va_up (va_up (fun _ => none) 0 (some a_13)) 1 (some a_14)) 2 (some a_15))))))), (a_13, .inr (1, [.ref a_16, .ref a_17, .int i_11, .int i_12, .int i_13])), (a_16, .inl (cy 1, 2100, .inl f_3)), (a_14, .inr (1, [.ref a_18, .ref a_19, .int i_14, .int i_15, .int i_16])), (a_18, .inl (cy 1, 2100, .inl f_4)), (a_15, .inr (1, [.ref a_20, .ref a_21, .int i_17, .int i_18, .int i_19])), (a_20, .inl (cy 1, 2100, .inl f_5))]) (fun (r : Int32) (u : Unit) => ((0 = r) ∨ (1 = r))) 0 0 := by
  refine mm_begin (lv := [(0, .ref a_0), (1, .int i_0), (2, .int i_1), (3, .int i_2)]) (by decide) (Nat.le_of_ble_eq_true rfl) rfl ?_
  intro p e s m below meth c A ls R args Q H locs hRe hQ hAe hx hb hr hlocks hml hown hnm hts hsz hA hS hP hK hD hZ hl
  have hRf : R.frames = 2 := by rw [hRe]
  have hRl : R.locals = 45 := by rw [hRe]
  have hRc : R.cells = 0 := by rw [hRe]
  have hRs : R.slots = 0 := by rw [hRe]
  refine lv_iconst (v := 1) hx hb dX10_isClear_0 (by decide) ?_
  refine lv_aload_n hx hb dX10_isClear_1 rfl (lv_at hl 0 rfl) ?_
  refine va_get (D := G) (ci := 10) (v := .ref a_1) (C := RX10) (T := TX10) (N := 2) hx hb hts (mm_i inlX10) hown hK.1 hP 0 rfl rfl 0 (by decide) (mm_h hts mm_w87) (fun _ h9 => h9) rfl dX10_isClear_2 ?_
  refine va_get (D := G) (ci := 0) (v := .int i_7) (C := RX0) (T := TX0) (N := 18) hx hb hts (mm_i inlX0) hown hK.1 hP 1 rfl rfl 4 (by decide) (mm_h hts mm_w729) (fun _ h9 => h9) rfl dX10_isClear_5 ?_
  refine lv_ishl hx hb dX10_isClear_8 ?_
  refine lv_topi (fun v1 ev1 => ?_)
  have rv1 : mm_rg v1 1 512 := mm_shl1 ev1 h3 (by decide)
  refine lv_istore (lv' := [(4, .int v1), (0, .ref a_0), (1, .int i_0), (2, .int i_1), (3, .int i_2)]) hx hb dX10_isClear_9 hl (by decide) rfl ?_
  clear hl
  clear ls
  intro ls hl
  refine lv_iconst (v := 0) hx hb dX10_isClear_11 (by decide) ?_
  refine lv_istore (lv' := [(5, .int 0), (4, .int v1), (0, .ref a_0), (1, .int i_0), (2, .int i_1), (3, .int i_2)]) hx hb dX10_isClear_12 hl (by decide) rfl ?_
  clear hl
  clear ls
  intro ls hl
  have L14_152 : ∀ (n : Nat) (x14_5_151 : Int32) (x14_4_152 : Int32), mm_rg x14_5_151 0 8 → mm_rg x14_4_152 0 1023 → (8 - x14_5_151.toInt).toNat < n → ∀ (H : Heap) (locs : List Loc), va_P G vwCl [(a_0, .inr (10, [.ref a_1, .ref a_2])), (a_1, .inr (0, [.int i_3, .int i_4, .int i_5, .int i_6, .int i_7, .int i_8, .int i_9, .int i_10, .ref a_3, .ref a_4, .ref a_5, .ref a_6, .ref a_7, .ref a_8, .ref a_9, .ref a_10, .ref a_11, .ref a_12])), (a_7, .inl (cy 1, 6, .inl f_0)), (a_8, .inl (cy 1, 48, .inl f_1)), (a_9, .inl (cy 1, 30, .inl f_2)), (a_2, .inl (cy 5, 3, .inr (.inr (.inr (.inr (va_up (va_up (va_up (fun _ => none) 0 (some a_13)) 1 (some a_14)) 2 (some a_15))))))), (a_13, .inr (1, [.ref a_16, .ref a_17, .int i_11, .int i_12, .int i_13])), (a_16, .inl (cy 1, 2100, .inl f_3)), (a_14, .inr (1, [.ref a_18, .ref a_19, .int i_14, .int i_15, .int i_16])), (a_18, .inl (cy 1, 2100, .inl f_4)), (a_15, .inr (1, [.ref a_20, .ref a_21, .int i_17, .int i_18, .int i_19])), (a_20, .inl (cy 1, 2100, .inl f_5))] H → va_D A [(a_0, .inr (10, [.ref a_1, .ref a_2])), (a_1, .inr (0, [.int i_3, .int i_4, .int i_5, .int i_6, .int i_7, .int i_8, .int i_9, .int i_10, .ref a_3, .ref a_4, .ref a_5, .ref a_6, .ref a_7, .ref a_8, .ref a_9, .ref a_10, .ref a_11, .ref a_12])), (a_7, .inl (cy 1, 6, .inl f_0)), (a_8, .inl (cy 1, 48, .inl f_1)), (a_9, .inl (cy 1, 30, .inl f_2)), (a_2, .inl (cy 5, 3, .inr (.inr (.inr (.inr (va_up (va_up (va_up (fun _ => none) 0 (some a_13)) 1 (some a_14)) 2 (some a_15))))))), (a_13, .inr (1, [.ref a_16, .ref a_17, .int i_11, .int i_12, .int i_13])), (a_16, .inl (cy 1, 2100, .inl f_3)), (a_14, .inr (1, [.ref a_18, .ref a_19, .int i_14, .int i_15, .int i_16])), (a_18, .inl (cy 1, 2100, .inl f_4)), (a_15, .inr (1, [.ref a_20, .ref a_21, .int i_17, .int i_18, .int i_19])), (a_20, .inl (cy 1, 2100, .inl f_5))] → va_S A s.heap H locs → ∀ (ls : Array Slot), lv_has ls 7 [(5, .int x14_5_151), (4, .int x14_4_152), (0, .ref a_0), (1, .int i_0), (2, .int i_1), (3, .int i_2)] → W p l e R s m args below meth c H locs 0 0 Q (F0 m 14 ls []) := by
    intro n
    induction n with
    | zero => intro x14_5_151 x14_4_152 rx14_5_151 rx14_4_152 hm; exact absurd hm (Nat.not_lt_zero _)
    | succ n ih14 =>
      intro x14_5_151 x14_4_152 rx14_5_151 rx14_4_152 hm14 H locs hP hD hS ls hl
      refine lv_iload hx hb dX10_isClear_14 (lv_at hl 0 rfl) ?_
      refine lv_aload_n hx hb dX10_isClear_16 rfl (lv_at hl 2 rfl) ?_
      refine va_get (D := G) (ci := 10) (v := .ref a_1) (C := RX10) (T := TX10) (N := 2) hx hb hts (mm_i inlX10) hown hK.1 hP 0 rfl rfl 0 (by decide) (mm_h hts mm_w87) (fun _ h9 => h9) rfl dX10_isClear_17 ?_
      refine va_get (D := G) (ci := 0) (v := .ref a_7) (C := RX0) (T := TX0) (N := 18) hx hb hts (mm_i inlX0) hown hK.1 hP 1 rfl rfl 12 (by decide) (mm_h hts mm_w838) (fun _ h9 => h9) rfl dX10_isClear_20 ?_
      refine lv_iload_n hx hb dX10_isClear_23 rfl (lv_at hl 5 rfl) ?_
      refine va_iald hx hb hK.1 hP 2 1 rfl rfl (mm_in h2 (by decide)) dX10_isClear_24 ?_
      refine lv_topi (fun v154 ev154 => ?_)
      have rv154 : mm_rg v154 0 8 := mm_eqv ev154 (h4 _)
      refine lv_icmp_ge (tgt := 71) hx hb dX10_isClear_25 (by decide) (fun c155 => ?_) (fun c155 => ?_)
      · refine lv_iconst (v := 1) hx hb dX10_isClear_71 (by decide) ?_
        subst hAe
        rw [hQ]
        exact W.zret (v := 1) hx hb hr rfl (fun t ht hW => ⟨⟨1, (), rfl, (Or.inr rfl), by rw [ht]; exact hP, hK.warm hW, hD⟩, hS.F ht⟩) hS.2.2 dX10_isClear_72
      · have q156 := mm_ltL (h := 7) (mm_nle c155) rx14_5_151 rv154 (by decide)
        have q157 := mm_ltR (lo := 1) (mm_nle c155) rx14_5_151 rv154 (by decide)
        refine lv_iconst (v := 1) hx hb dX10_isClear_28 (by decide) ?_
        refine lv_aload_n hx hb dX10_isClear_29 rfl (lv_at hl 2 rfl) ?_
        refine lv_iload_n hx hb dX10_isClear_30 rfl (lv_at hl 3 rfl) ?_
        refine lv_iload_n hx hb dX10_isClear_31 rfl (lv_at hl 4 rfl) ?_
        refine lv_aload_n hx hb dX10_isClear_32 rfl (lv_at hl 2 rfl) ?_
        refine va_get (D := G) (ci := 10) (v := .ref a_1) (C := RX10) (T := TX10) (N := 2) hx hb hts (mm_i inlX10) hown hK.1 hP 0 rfl rfl 0 (by decide) (mm_h hts mm_w87) (fun _ h9 => h9) rfl dX10_isClear_33 ?_
        refine lv_iload_n hx hb dX10_isClear_36 rfl (lv_at hl 5 rfl) ?_
        refine lv_iload hx hb dX10_isClear_37 (lv_at hl 0 rfl) ?_
        refine mm_finir (va_runV (As := [.int i_2, .int x14_5_151]) (rest := [.int i_1, .int i_0, .ref a_0, .int 1]) ⟨hx, hb, hml, hown, hts⟩ (K348_X0_wordAt l G cy H.size a_1 i_2 x14_5_151 i_3 i_4 i_5 i_6 i_7 i_8 i_9 i_10 a_3 a_4 a_5 a_6 a_7 a_8 a_9 a_10 a_11 a_12 f_1 h2 q156 h5) (cwV 2 hts (mm_gV mm_w839 mm_w606 mm_w607 mm_w28 mm_w608) rfl rfl rfl hd_X0_wordAt ⟨by rw [hRf]; exact Nat.le_of_ble_eq_true rfl, by rw [hRl]; exact Nat.le_of_ble_eq_true rfl⟩) (mm_preV hK hZ hS hA hP hD [1, 3] rfl rfl 1 rfl rfl rfl) rfl rfl hl.1 rfl (lv_room (Nat.le_of_ble_eq_true rfl)) dX10_isClear_39 ⟨by rw [hRc]; exact Nat.le_of_ble_eq_true rfl, by rw [hRs]; exact Nat.le_of_ble_eq_true rfl⟩) hP hD hS hA [1, 3] rfl (fun _ => rfl) ?_
        clear hP hD hS
        clear H locs
        intro v158 _u H locs hw hP hD hS
        have w159 := hw
        refine mm_finir (va_runV (As := [.int i_0, .int i_1, .int v158]) (rest := [.int 1]) ⟨hx, hb, hml, hown, hts⟩ (K355_X10_meaning l G cy H.size a_0 i_0 i_1 v158 a_1 a_2 i_3 i_4 i_5 i_6 i_7 i_8 i_9 i_10 a_3 a_4 a_5 a_6 a_7 a_8 a_9 a_10 a_11 a_12 f_2 a_13 a_14 a_15 a_16 a_17 i_11 i_12 i_13 f_3 a_18 a_19 i_14 i_15 i_16 f_4 a_20 a_21 i_17 i_18 i_19 f_5 h0 h1 w159 h6 h7 h8 h9 h10 h11 h12) (cwV 3 hts (mm_gV mm_w730 mm_w666 mm_w667 mm_w23 mm_w668) rfl rfl rfl hd_X10_meaning ⟨by rw [hRf]; exact Nat.le_of_ble_eq_true rfl, by rw [hRl]; exact Nat.le_of_ble_eq_true rfl⟩) (mm_preV hK hZ hS hA hP hD [0, 1, 4, 5, 6, 7, 8, 9, 10, 11] rfl rfl 0 rfl rfl rfl) rfl rfl hl.1 rfl (lv_room (Nat.le_of_ble_eq_true rfl)) dX10_isClear_42 ⟨by rw [hRc]; exact Nat.le_of_ble_eq_true rfl, by rw [hRs]; exact Nat.le_of_ble_eq_true rfl⟩) hP hD hS hA [0, 1, 4, 5, 6, 7, 8, 9, 10, 11] rfl (fun _ => rfl) ?_
        clear hP hD hS
        clear H locs
        intro v160 _u H locs hw hP hD hS
        have w161 := hw
        refine lv_ishl hx hb dX10_isClear_45 ?_
        refine lv_topi (fun v162 ev162 => ?_)
        have rv162 : mm_rg v162 1 512 := mm_shl1 ev162 w161 (by decide)
        refine lv_istore (lv' := [(6, .int v162), (5, .int x14_5_151), (4, .int x14_4_152), (0, .ref a_0), (1, .int i_0), (2, .int i_1), (3, .int i_2)]) hx hb dX10_isClear_46 hl (by decide) rfl ?_
        clear hl
        clear ls
        intro ls hl
        refine lv_iload hx hb dX10_isClear_48 (lv_at hl 2 rfl) ?_
        refine lv_iload hx hb dX10_isClear_50 (lv_at hl 0 rfl) ?_
        refine lv_iand hx hb dX10_isClear_52 ?_
        refine lv_topi (fun v163 ev163 => ?_)
        have rv163 : mm_rg v163 0 512 := mm_andR ev163 rv162 (by decide)
        refine lv_if_eq (tgt := 58) hx hb dX10_isClear_53 (by decide) (fun c164 => ?_) (fun c164 => ?_)
        · have q165 := mm_eqI (lo := 0) (hi := 0) c164 rv163 mm_k0 (by decide)
          refine lv_iload hx hb dX10_isClear_58 (lv_at hl 2 rfl) ?_
          refine lv_iload hx hb dX10_isClear_60 (lv_at hl 0 rfl) ?_
          refine lv_ior hx hb dX10_isClear_62 ?_
          refine lv_topi (fun v166 ev166 => ?_)
          have rv166 : mm_rg v166 0 1023 := mm_or ev166 10 rx14_4_152 rv162 (by decide)
          refine lv_istore (lv' := [(4, .int v166), (6, .int v162), (5, .int x14_5_151), (0, .ref a_0), (1, .int i_0), (2, .int i_1), (3, .int i_2)]) hx hb dX10_isClear_63 hl (by decide) rfl ?_
          clear hl
          clear ls
          intro ls hl
          obtain ⟨v167, ev167⟩ : ∃ y : Int32, y = x14_5_151 + 1 := ⟨_, rfl⟩
          refine lv_iinc (v := v167) (lv' := [(5, .int v167), (4, .int v166), (6, .int v162), (0, .ref a_0), (1, .int i_0), (2, .int i_1), (3, .int i_2)]) hx hb dX10_isClear_65 hl (k := 2) rfl (by rw [ev167]; rfl) (by decide) rfl ?_
          clear hl
          clear ls
          intro ls hl
          have rv167 : mm_rg v167 1 8 := mm_add ev167 q156 mm_k1 (by decide) (by decide)
          have tv167 := mm_addEc ev167 q156 mm_k1 (by decide) (k := 1) (by decide)
          refine lv_goto (tgt := 14) hx hb dX10_isClear_68 (by decide) ?_
          exact ih14 v167 v166 (mm_wk rv167 (by decide)) rv166 (mm_mu hm14 tv167 (by decide) (rv167).2 (by decide)) H locs hP hD hS ls (lv_sub hl [0, 1, 3, 4, 5, 6] rfl)
        · have q168 := mm_neL (lo := 1) (mm_ne c164) rv163 mm_k0 (by decide) (by decide)
          refine lv_iconst (v := 0) hx hb dX10_isClear_56 (by decide) ?_
          subst hAe
          rw [hQ]
          exact W.zret (v := 0) hx hb hr rfl (fun t ht hW => ⟨⟨0, (), rfl, (Or.inl rfl), by rw [ht]; exact hP, hK.warm hW, hD⟩, hS.F ht⟩) hS.2.2 dX10_isClear_57
  exact L14_152 _ 0 v1 (mm_wk mm_k0 (by decide)) (mm_wk rv1 (by decide)) (Nat.lt_succ_self _) H locs hP hD hS ls (lv_sub hl [0, 1, 2, 3, 4, 5] rfl)

set_option maxHeartbeats 4000000 in
set_option maxRecDepth 100000 in
theorem K408_X11_clear (l : Launch) (G : va_G) (cy : Nat → ClassId) (sz : Nat) (a_0 : Nat) (i_0 : Int32) (i_1 : Int32) (a_1 : Nat) (a_2 : Nat) (a_3 : Nat) (a_4 : Nat) (a_5 : Nat) (a_6 : Nat) (a_7 : Nat) (a_8 : Nat) (a_9 : Nat) (a_10 : Nat) (a_11 : Nat) (a_12 : Nat) (a_13 : Nat) (i_2 : Int32) (i_3 : Int32) (i_4 : Int32) (i_5 : Int32) (i_6 : Int32) (i_7 : Int32) (i_8 : Int32) (i_9 : Int32) (a_14 : Nat) (a_15 : Nat) (a_16 : Nat) (a_17 : Nat) (a_18 : Nat) (a_19 : Nat) (a_20 : Nat) (a_21 : Nat) (a_22 : Nat) (a_23 : Nat) (f_0 : Nat → Int32) (f_1 : Nat → Int32) (f_2 : Nat → Int32) (a_24 : Nat) (a_25 : Nat) (a_26 : Nat) (a_27 : Nat) (a_28 : Nat) (i_10 : Int32) (i_11 : Int32) (i_12 : Int32) (f_3 : Nat → Int32) (a_29 : Nat) (a_30 : Nat) (i_13 : Int32) (i_14 : Int32) (i_15 : Int32) (f_4 : Nat → Int32) (a_31 : Nat) (a_32 : Nat) (i_16 : Int32) (i_17 : Int32) (i_18 : Int32) (f_5 : Nat → Int32) (h0 : mm_rg i_6 0 9) (h1 : mm_rg i_7 0 3) (h2 : mm_rg i_8 0 6) (h3 : mm_ar f_0 0 8) (h4 : mm_ar f_1 0 9) (h5 : mm_ar f_2 0 9) (h6 : mm_rg i_12 (-2147483648) 210) (h7 : mm_ar f_3 0 9) (h8 : mm_rg i_15 (-2147483648) 210) (h9 : mm_ar f_4 0 9) (h10 : mm_rg i_18 (-2147483648) 210) (h11 : mm_ar f_5 0 9)  : mm_CI l yX11_clear (mm_ws yX11_clear cX11_clear 5 (some .int)) ({ frames := 3, cells := 0, slots := 0, locals := 71 } : Room) G cy sz [(a_0, .inr (11, [.ref a_1, .ref a_2, .ref a_3, .ref a_4, .ref a_5, .ref a_6, .ref a_7, .ref a_8, .ref a_9, .ref a_10, .ref a_11])), (a_3, .inr (10, [.ref a_12, .ref a_13])), (a_12, .inr (0, [.int i_2, .int i_3, .int i_4, .int i_5, .int i_6, .int i_7, .int i_8, .int i_9, .ref a_14, .ref a_15, .ref a_16, .ref a_17, .ref a_18, .ref a_19, .ref a_20, .ref a_21, .ref a_22, .ref a_23])), (a_18, .inl (cy 1, 6, .inl f_0)), (a_19, .inl (cy 1, 48, .inl f_1)), (a_20, .inl (cy 1, 30, .inl f_2)), (a_13, .inl (cy 5, 3, .inr (.inr (.inr (.inr (va_up (va_up (va_up (fun _ => none) 0 (some a_24)) 1 (some a_25)) 2 (some a_26))))))), (a_24, .inr (1, [.ref a_27, .ref a_28, .int i_10, .int i_11, .int i_12])), (a_27, .inl (cy 1, 2100, .inl f_3)), (a_25, .inr (1, [.ref a_29, .ref a_30, .int i_13, .int i_14, .int i_15])), (a_29, .inl (cy 1, 2100, .inl f_4)), (a_26, .inr (1, [.ref a_31, .ref a_32, .int i_16, .int i_17, .int i_18])), (a_31, .inl (cy 1, 2100, .inl f_5))] [.ref a_0, .int i_0, .int i_1] (fun u : Unit => [(a_0, .inr (11, [.ref a_1, .ref a_2, .ref a_3, .ref a_4, .ref a_5, .ref a_6, .ref a_7, .ref a_8, .ref a_9, .ref a_10, .ref a_11])), (a_3, .inr (10, [.ref a_12, .ref a_13])), (a_12, .inr (0, [.int i_2, .int i_3, .int i_4, .int i_5, .int i_6, .int i_7, .int i_8, .int i_9, .ref a_14, .ref a_15, .ref a_16, .ref a_17, .ref a_18, .ref a_19, .ref a_20, .ref a_21, .ref a_22, .ref a_23])), (a_18, .inl (cy 1, 6, .inl f_0)), (a_19, .inl (cy 1, 48, .inl f_1)), (a_20, .inl (cy 1, 30, .inl f_2)), (a_13, .inl (cy 5, 3, .inr (.inr (.inr (.inr (va_up (va_up (va_up (fun _ => none) 0 (some a_24)) 1 (some a_25)) 2 (some a_26))))))), (a_24, .inr (1, [.ref a_27, .ref a_28, .int i_10, .int i_11, .int i_12])), (a_27, .inl (cy 1, 2100, .inl f_3)), (a_25, .inr (1, [.ref a_29, .ref a_30, .int i_13, .int i_14, .int i_15])), (a_29, .inl (cy 1, 2100, .inl f_4)), (a_26, .inr (1, [.ref a_31, .ref a_32, .int i_16, .int i_17, .int i_18])), (a_31, .inl (cy 1, 2100, .inl f_5))]) (fun (r : Int32) (u : Unit) => mm_rg r (-2) 209) 0 0 := by
  refine mm_begin (lv := [(0, .ref a_0), (1, .int i_0), (2, .int i_1)]) (by decide) (Nat.le_of_ble_eq_true rfl) rfl ?_
  intro p e s m below meth c A ls R args Q H locs hRe hQ hAe hx hb hr hlocks hml hown hnm hts hsz hA hS hP hK hD hZ hl
  have hRf : R.frames = 3 := by rw [hRe]
  have hRl : R.locals = 71 := by rw [hRe]
  have hRc : R.cells = 0 := by rw [hRe]
  have hRs : R.slots = 0 := by rw [hRe]
  refine lv_aload_n hx hb dX11_clear_0 rfl (lv_at hl 0 rfl) ?_
  refine lv_iload_n hx hb dX11_clear_1 rfl (lv_at hl 1 rfl) ?_
  refine lv_iload_n hx hb dX11_clear_2 rfl (lv_at hl 2 rfl) ?_
  refine mm_finir (va_runV (As := [.int i_0, .int i_1]) (rest := []) ⟨hx, hb, hml, hown, hts⟩ (K388_X11_isLandAndText l G cy H.size a_0 i_0 i_1 a_1 a_2 a_3 a_4 a_5 a_6 a_7 a_8 a_9 a_10 a_11 a_12 a_13 i_2 i_3 i_4 i_5 i_6 i_7 i_8 i_9 a_14 a_15 a_16 a_17 a_18 a_19 a_20 a_21 a_22 a_23 h1 h2) (cwV 2 hts (mm_gV mm_w955 mm_w956 mm_w957 mm_w2 mm_w958) rfl rfl rfl hd_X11_isLandAndText ⟨by rw [hRf]; exact Nat.le_of_ble_eq_true rfl, by rw [hRl]; exact Nat.le_of_ble_eq_true rfl⟩) (mm_preV hK hZ hS hA hP hD [0, 1, 2] rfl rfl 0 rfl rfl rfl) rfl rfl hl.1 rfl (lv_room (Nat.le_of_ble_eq_true rfl)) dX11_clear_3 ⟨by rw [hRc]; exact Nat.le_of_ble_eq_true rfl, by rw [hRs]; exact Nat.le_of_ble_eq_true rfl⟩) hP hD hS hA [0, 1, 2] rfl (fun _ => rfl) ?_
  clear hP hD hS
  clear H locs
  intro v1 _u H locs hw hP hD hS
  rcases hw with rfl | ⟨rfl, w2, w3⟩
  · refine lv_if_ne (tgt := 12) hx hb dX11_clear_6 (by decide) (fun c4 => ?_) (fun c4 => ?_)
    · have q5 := mm_neL (lo := 1) (mm_ne c4) mm_k0 mm_k0 (by decide) (by decide)
      exact mm_no q5 (by decide)
    · refine lv_bipush (v := (-2)) hx hb dX11_clear_9 (by decide) ?_
      subst hAe
      rw [hQ]
      exact W.iret (v := (-2)) hx hb hr (fun t ht hW => ⟨⟨(-2), (), rfl, (mm_wk mm_km2 (by decide)), by rw [ht]; exact hP, hK.warm hW, hD⟩, hS.F ht⟩) hS.2.2 dX11_clear_11
  · refine lv_if_ne (tgt := 12) hx hb dX11_clear_6 (by decide) (fun c6 => ?_) (fun c6 => ?_)
    · refine lv_aload_n hx hb dX11_clear_12 rfl (lv_at hl 0 rfl) ?_
      refine va_get (D := G) (ci := 11) (v := .ref a_3) (C := RX11) (T := TX11) (N := 11) hx hb hts (mm_i inlX11) hown hK.1 hP 0 rfl rfl 2 (by decide) (mm_h hts mm_w24) (fun _ h9 => h9) rfl dX11_clear_13 ?_
      refine lv_iload_n hx hb dX11_clear_16 rfl (lv_at hl 1 rfl) ?_
      refine mm_finir (va_runV (As := [.int i_0]) (rest := []) ⟨hx, hb, hml, hown, hts⟩ (K360_X10_period l G cy H.size a_3 i_0 a_12 a_13 a_24 a_25 a_26 a_27 a_28 i_10 i_11 i_12 a_29 a_30 i_13 i_14 i_15 a_31 a_32 i_16 i_17 i_18 w2 h6 h8 h10) (cwV 1 hts (mm_gV mm_w743 mm_w744 mm_w745 mm_w23 mm_w746) rfl rfl rfl hd_X10_period ⟨by rw [hRf]; exact Nat.le_of_ble_eq_true rfl, by rw [hRl]; exact Nat.le_of_ble_eq_true rfl⟩) (mm_preV hK hZ hS hA hP hD [1, 6, 7, 9, 11] rfl rfl 1 rfl rfl rfl) rfl rfl hl.1 rfl (lv_room (Nat.le_of_ble_eq_true rfl)) dX11_clear_17 ⟨by rw [hRc]; exact Nat.le_of_ble_eq_true rfl, by rw [hRs]; exact Nat.le_of_ble_eq_true rfl⟩) hP hD hS hA [1, 6, 7, 9, 11] rfl (fun _ => rfl) ?_
      clear hP hD hS
      clear H locs
      intro v7 _u H locs hw hP hD hS
      have w8 := hw
      refine lv_istore_n (lv' := [(3, .int v7), (0, .ref a_0), (1, .int i_0), (2, .int i_1)]) hx hb dX11_clear_20 rfl hl (by decide) rfl ?_
      clear hl
      clear ls
      intro ls hl
      refine lv_iconst (v := 0) hx hb dX11_clear_21 (by decide) ?_
      refine lv_istore (lv' := [(4, .int 0), (3, .int v7), (0, .ref a_0), (1, .int i_0), (2, .int i_1)]) hx hb dX11_clear_22 hl (by decide) rfl ?_
      clear hl
      clear ls
      intro ls hl
      have L24_136 : ∀ (n : Nat) (x24_4_136 : Int32), mm_rg x24_4_136 0 210 → (210 - x24_4_136.toInt).toNat < n → ∀ (H : Heap) (locs : List Loc), va_P G vwCl [(a_0, .inr (11, [.ref a_1, .ref a_2, .ref a_3, .ref a_4, .ref a_5, .ref a_6, .ref a_7, .ref a_8, .ref a_9, .ref a_10, .ref a_11])), (a_3, .inr (10, [.ref a_12, .ref a_13])), (a_12, .inr (0, [.int i_2, .int i_3, .int i_4, .int i_5, .int i_6, .int i_7, .int i_8, .int i_9, .ref a_14, .ref a_15, .ref a_16, .ref a_17, .ref a_18, .ref a_19, .ref a_20, .ref a_21, .ref a_22, .ref a_23])), (a_18, .inl (cy 1, 6, .inl f_0)), (a_19, .inl (cy 1, 48, .inl f_1)), (a_20, .inl (cy 1, 30, .inl f_2)), (a_13, .inl (cy 5, 3, .inr (.inr (.inr (.inr (va_up (va_up (va_up (fun _ => none) 0 (some a_24)) 1 (some a_25)) 2 (some a_26))))))), (a_24, .inr (1, [.ref a_27, .ref a_28, .int i_10, .int i_11, .int i_12])), (a_27, .inl (cy 1, 2100, .inl f_3)), (a_25, .inr (1, [.ref a_29, .ref a_30, .int i_13, .int i_14, .int i_15])), (a_29, .inl (cy 1, 2100, .inl f_4)), (a_26, .inr (1, [.ref a_31, .ref a_32, .int i_16, .int i_17, .int i_18])), (a_31, .inl (cy 1, 2100, .inl f_5))] H → va_D A [(a_0, .inr (11, [.ref a_1, .ref a_2, .ref a_3, .ref a_4, .ref a_5, .ref a_6, .ref a_7, .ref a_8, .ref a_9, .ref a_10, .ref a_11])), (a_3, .inr (10, [.ref a_12, .ref a_13])), (a_12, .inr (0, [.int i_2, .int i_3, .int i_4, .int i_5, .int i_6, .int i_7, .int i_8, .int i_9, .ref a_14, .ref a_15, .ref a_16, .ref a_17, .ref a_18, .ref a_19, .ref a_20, .ref a_21, .ref a_22, .ref a_23])), (a_18, .inl (cy 1, 6, .inl f_0)), (a_19, .inl (cy 1, 48, .inl f_1)), (a_20, .inl (cy 1, 30, .inl f_2)), (a_13, .inl (cy 5, 3, .inr (.inr (.inr (.inr (va_up (va_up (va_up (fun _ => none) 0 (some a_24)) 1 (some a_25)) 2 (some a_26))))))), (a_24, .inr (1, [.ref a_27, .ref a_28, .int i_10, .int i_11, .int i_12])), (a_27, .inl (cy 1, 2100, .inl f_3)), (a_25, .inr (1, [.ref a_29, .ref a_30, .int i_13, .int i_14, .int i_15])), (a_29, .inl (cy 1, 2100, .inl f_4)), (a_26, .inr (1, [.ref a_31, .ref a_32, .int i_16, .int i_17, .int i_18])), (a_31, .inl (cy 1, 2100, .inl f_5))] → va_S A s.heap H locs → ∀ (ls : Array Slot), lv_has ls 5 [(4, .int x24_4_136), (3, .int v7), (0, .ref a_0), (1, .int i_0), (2, .int i_1)] → W p l e R s m args below meth c H locs 0 0 Q (F0 m 24 ls []) := by
        intro n
        induction n with
        | zero => intro x24_4_136 rx24_4_136 hm; exact absurd hm (Nat.not_lt_zero _)
        | succ n ih24 =>
          intro x24_4_136 rx24_4_136 hm24 H locs hP hD hS ls hl
          refine lv_iload hx hb dX11_clear_24 (lv_at hl 0 rfl) ?_
          refine lv_iload_n hx hb dX11_clear_26 rfl (lv_at hl 1 rfl) ?_
          refine lv_icmp_ge (tgt := 53) hx hb dX11_clear_27 (by decide) (fun c138 => ?_) (fun c138 => ?_)
          · refine lv_iconst (v := (-1)) hx hb dX11_clear_53 (by decide) ?_
            subst hAe
            rw [hQ]
            exact W.iret (v := (-1)) hx hb hr (fun t ht hW => ⟨⟨(-1), (), rfl, (mm_wk mm_km1 (by decide)), by rw [ht]; exact hP, hK.warm hW, hD⟩, hS.F ht⟩) hS.2.2 dX11_clear_54
          · have q139 := mm_ltL (h := 209) (mm_nle c138) rx24_4_136 w8 (by decide)
            have q140 := mm_ltR (lo := 1) (mm_nle c138) rx24_4_136 w8 (by decide)
            refine lv_aload_n hx hb dX11_clear_30 rfl (lv_at hl 2 rfl) ?_
            refine va_get (D := G) (ci := 11) (v := .ref a_3) (C := RX11) (T := TX11) (N := 11) hx hb hts (mm_i inlX11) hown hK.1 hP 0 rfl rfl 2 (by decide) (mm_h hts mm_w24) (fun _ h9 => h9) rfl dX11_clear_31 ?_
            refine lv_iload_n hx hb dX11_clear_34 rfl (lv_at hl 3 rfl) ?_
            refine lv_iload hx hb dX11_clear_35 (lv_at hl 0 rfl) ?_
            refine lv_iload_n hx hb dX11_clear_37 rfl (lv_at hl 4 rfl) ?_
            refine mm_finir (va_runV (As := [.int i_0, .int x24_4_136, .int i_1]) (rest := []) ⟨hx, hb, hml, hown, hts⟩ (K407_X10_isClear l G cy H.size a_3 i_0 x24_4_136 i_1 a_12 a_13 i_2 i_3 i_4 i_5 i_6 i_7 i_8 i_9 a_14 a_15 a_16 a_17 a_18 a_19 a_20 a_21 a_22 a_23 f_0 f_1 f_2 a_24 a_25 a_26 a_27 a_28 i_10 i_11 i_12 f_3 a_29 a_30 i_13 i_14 i_15 f_4 a_31 a_32 i_16 i_17 i_18 f_5 w2 (mm_wk q139 (by decide)) w3 h0 h3 h4 h5 h6 h7 h8 h9 h10 h11) (cwV 3 hts (mm_gV mm_w988 mm_w989 mm_w990 mm_w23 mm_w991) rfl rfl rfl hd_X10_isClear ⟨by rw [hRf]; exact Nat.le_of_ble_eq_true rfl, by rw [hRl]; exact Nat.le_of_ble_eq_true rfl⟩) (mm_preV hK hZ hS hA hP hD [1, 2, 3, 4, 5, 6, 7, 8, 9, 10, 11, 12] rfl rfl 1 rfl rfl rfl) rfl rfl hl.1 rfl (lv_room (Nat.le_of_ble_eq_true rfl)) dX11_clear_38 ⟨by rw [hRc]; exact Nat.le_of_ble_eq_true rfl, by rw [hRs]; exact Nat.le_of_ble_eq_true rfl⟩) hP hD hS hA [1, 2, 3, 4, 5, 6, 7, 8, 9, 10, 11, 12] rfl (fun _ => rfl) ?_
            clear hP hD hS
            clear H locs
            intro v141 _u H locs hw hP hD hS
            rcases hw with rfl | rfl
            · refine lv_if_eq (tgt := 47) hx hb dX11_clear_41 (by decide) (fun c142 => ?_) (fun c142 => ?_)
              · obtain ⟨v143, ev143⟩ : ∃ y : Int32, y = x24_4_136 + 1 := ⟨_, rfl⟩
                refine lv_iinc (v := v143) (lv' := [(4, .int v143), (3, .int v7), (0, .ref a_0), (1, .int i_0), (2, .int i_1)]) hx hb dX11_clear_47 hl (k := 0) rfl (by rw [ev143]; rfl) (by decide) rfl ?_
                clear hl
                clear ls
                intro ls hl
                have rv143 : mm_rg v143 1 210 := mm_add ev143 q139 mm_k1 (by decide) (by decide)
                have tv143 := mm_addEc ev143 q139 mm_k1 (by decide) (k := 1) (by decide)
                refine lv_goto (tgt := 24) hx hb dX11_clear_50 (by decide) ?_
                exact ih24 v143 (mm_wk rv143 (by decide)) (mm_mu hm24 tv143 (by decide) (rv143).2 (by decide)) H locs hP hD hS ls (lv_sub hl [0, 1, 2, 3, 4] rfl)
              · have q144 := mm_neL (lo := 1) (mm_ne c142) mm_k0 mm_k0 (by decide) (by decide)
                exact mm_no q144 (by decide)
            · refine lv_if_eq (tgt := 47) hx hb dX11_clear_41 (by decide) (fun c145 => ?_) (fun c145 => ?_)
              · exact mm_eqN c145.symm mm_k0 mm_k1 (by decide)
              · refine lv_iload hx hb dX11_clear_44 (lv_at hl 0 rfl) ?_
                subst hAe
                rw [hQ]
                exact W.iret (v := x24_4_136) hx hb hr (fun t ht hW => ⟨⟨x24_4_136, (), rfl, (mm_wk q139 (by decide)), by rw [ht]; exact hP, hK.warm hW, hD⟩, hS.F ht⟩) hS.2.2 dX11_clear_46
      exact L24_136 _ 0 (mm_wk mm_k0 (by decide)) (Nat.lt_succ_self _) H locs hP hD hS ls (lv_sub hl [0, 1, 2, 3, 4] rfl)
    · exact mm_eqN c6.symm mm_k0 mm_k1 (by decide)

set_option maxHeartbeats 4000000 in
set_option maxRecDepth 100000 in
theorem K409_X11_agree (l : Launch) (G : va_G) (cy : Nat → ClassId) (sz : Nat) (a_0 : Nat) (i_0 : Int32) (i_1 : Int32) (i_2 : Int32) (a_1 : Nat) (a_2 : Nat) (a_3 : Nat) (a_4 : Nat) (a_5 : Nat) (a_6 : Nat) (a_7 : Nat) (a_8 : Nat) (a_9 : Nat) (a_10 : Nat) (a_11 : Nat) (a_12 : Nat) (a_13 : Nat) (i_3 : Int32) (i_4 : Int32) (i_5 : Int32) (i_6 : Int32) (i_7 : Int32) (i_8 : Int32) (i_9 : Int32) (i_10 : Int32) (a_14 : Nat) (a_15 : Nat) (a_16 : Nat) (a_17 : Nat) (a_18 : Nat) (a_19 : Nat) (a_20 : Nat) (a_21 : Nat) (a_22 : Nat) (a_23 : Nat) (f_0 : Nat → Int32) (f_1 : Nat → Int32) (f_2 : Nat → Int32) (f_3 : Nat → Int32) (f_4 : Nat → Int32) (a_24 : Nat) (a_25 : Nat) (a_26 : Nat) (a_27 : Nat) (a_28 : Nat) (i_11 : Int32) (i_12 : Int32) (i_13 : Int32) (f_5 : Nat → Int32) (a_29 : Nat) (a_30 : Nat) (i_14 : Int32) (i_15 : Int32) (i_16 : Int32) (f_6 : Nat → Int32) (a_31 : Nat) (a_32 : Nat) (i_17 : Int32) (i_18 : Int32) (i_19 : Int32) (f_7 : Nat → Int32) (h0 : mm_rg i_6 0 99) (h1 : mm_rg i_7 0 9) (h2 : mm_rg i_8 0 3) (h3 : mm_rg i_9 0 6) (h4 : mm_ar f_0 (-1) 4) (h5 : mm_ar f_1 0 99) (h6 : mm_ar f_2 0 8) (h7 : mm_ar f_3 0 9) (h8 : mm_ar f_4 0 9) (h9 : mm_rg i_13 (-2147483648) 210) (h10 : mm_ar f_5 0 9) (h11 : mm_rg i_16 (-2147483648) 210) (h12 : mm_ar f_6 0 9) (h13 : mm_rg i_19 (-2147483648) 210) (h14 : mm_ar f_7 0 9)  : mm_CI l yX11_agree (mm_ws yX11_agree cX11_agree 6 (some .int)) ({ frames := 4, cells := 0, slots := 0, locals := 111 } : Room) G cy sz [(a_0, .inr (11, [.ref a_1, .ref a_2, .ref a_3, .ref a_4, .ref a_5, .ref a_6, .ref a_7, .ref a_8, .ref a_9, .ref a_10, .ref a_11])), (a_3, .inr (10, [.ref a_12, .ref a_13])), (a_12, .inr (0, [.int i_3, .int i_4, .int i_5, .int i_6, .int i_7, .int i_8, .int i_9, .int i_10, .ref a_14, .ref a_15, .ref a_16, .ref a_17, .ref a_18, .ref a_19, .ref a_20, .ref a_21, .ref a_22, .ref a_23])), (a_14, .inl (cy 1, 9, .inl f_0)), (a_15, .inl (cy 1, 9, .inl f_1)), (a_18, .inl (cy 1, 6, .inl f_2)), (a_19, .inl (cy 1, 48, .inl f_3)), (a_20, .inl (cy 1, 30, .inl f_4)), (a_13, .inl (cy 5, 3, .inr (.inr (.inr (.inr (va_up (va_up (va_up (fun _ => none) 0 (some a_24)) 1 (some a_25)) 2 (some a_26))))))), (a_24, .inr (1, [.ref a_27, .ref a_28, .int i_11, .int i_12, .int i_13])), (a_27, .inl (cy 1, 2100, .inl f_5)), (a_25, .inr (1, [.ref a_29, .ref a_30, .int i_14, .int i_15, .int i_16])), (a_29, .inl (cy 1, 2100, .inl f_6)), (a_26, .inr (1, [.ref a_31, .ref a_32, .int i_17, .int i_18, .int i_19])), (a_31, .inl (cy 1, 2100, .inl f_7))] [.ref a_0, .int i_0, .int i_1, .int i_2] (fun u : Unit => [(a_0, .inr (11, [.ref a_1, .ref a_2, .ref a_3, .ref a_4, .ref a_5, .ref a_6, .ref a_7, .ref a_8, .ref a_9, .ref a_10, .ref a_11])), (a_3, .inr (10, [.ref a_12, .ref a_13])), (a_12, .inr (0, [.int i_3, .int i_4, .int i_5, .int i_6, .int i_7, .int i_8, .int i_9, .int i_10, .ref a_14, .ref a_15, .ref a_16, .ref a_17, .ref a_18, .ref a_19, .ref a_20, .ref a_21, .ref a_22, .ref a_23])), (a_14, .inl (cy 1, 9, .inl f_0)), (a_15, .inl (cy 1, 9, .inl f_1)), (a_18, .inl (cy 1, 6, .inl f_2)), (a_19, .inl (cy 1, 48, .inl f_3)), (a_20, .inl (cy 1, 30, .inl f_4)), (a_13, .inl (cy 5, 3, .inr (.inr (.inr (.inr (va_up (va_up (va_up (fun _ => none) 0 (some a_24)) 1 (some a_25)) 2 (some a_26))))))), (a_24, .inr (1, [.ref a_27, .ref a_28, .int i_11, .int i_12, .int i_13])), (a_27, .inl (cy 1, 2100, .inl f_5)), (a_25, .inr (1, [.ref a_29, .ref a_30, .int i_14, .int i_15, .int i_16])), (a_29, .inl (cy 1, 2100, .inl f_6)), (a_26, .inr (1, [.ref a_31, .ref a_32, .int i_17, .int i_18, .int i_19])), (a_31, .inl (cy 1, 2100, .inl f_7))]) (fun (r : Int32) (u : Unit) => mm_rg r (-2) 209) 0 0 := by
  refine mm_begin (lv := [(0, .ref a_0), (1, .int i_0), (2, .int i_1), (3, .int i_2)]) (by decide) (Nat.le_of_ble_eq_true rfl) rfl ?_
  intro p e s m below meth c A ls R args Q H locs hRe hQ hAe hx hb hr hlocks hml hown hnm hts hsz hA hS hP hK hD hZ hl
  have hRf : R.frames = 4 := by rw [hRe]
  have hRl : R.locals = 111 := by rw [hRe]
  have hRc : R.cells = 0 := by rw [hRe]
  have hRs : R.slots = 0 := by rw [hRe]
  refine lv_aload_n hx hb dX11_agree_0 rfl (lv_at hl 0 rfl) ?_
  refine lv_iload_n hx hb dX11_agree_1 rfl (lv_at hl 1 rfl) ?_
  refine lv_iload_n hx hb dX11_agree_2 rfl (lv_at hl 2 rfl) ?_
  refine mm_finir (va_runV (As := [.int i_0, .int i_1]) (rest := []) ⟨hx, hb, hml, hown, hts⟩ (K388_X11_isLandAndText l G cy H.size a_0 i_0 i_1 a_1 a_2 a_3 a_4 a_5 a_6 a_7 a_8 a_9 a_10 a_11 a_12 a_13 i_3 i_4 i_5 i_6 i_7 i_8 i_9 i_10 a_14 a_15 a_16 a_17 a_18 a_19 a_20 a_21 a_22 a_23 h2 h3) (cwV 2 hts (mm_gV mm_w955 mm_w956 mm_w957 mm_w2 mm_w958) rfl rfl rfl hd_X11_isLandAndText ⟨by rw [hRf]; exact Nat.le_of_ble_eq_true rfl, by rw [hRl]; exact Nat.le_of_ble_eq_true rfl⟩) (mm_preV hK hZ hS hA hP hD [0, 1, 2] rfl rfl 0 rfl rfl rfl) rfl rfl hl.1 rfl (lv_room (Nat.le_of_ble_eq_true rfl)) dX11_agree_3 ⟨by rw [hRc]; exact Nat.le_of_ble_eq_true rfl, by rw [hRs]; exact Nat.le_of_ble_eq_true rfl⟩) hP hD hS hA [0, 1, 2] rfl (fun _ => rfl) ?_
  clear hP hD hS
  clear H locs
  intro v1 _u H locs hw hP hD hS
  rcases hw with rfl | ⟨rfl, w2, w3⟩
  · refine lv_if_eq (tgt := 17) hx hb dX11_agree_6 (by decide) (fun c4 => ?_) (fun c4 => ?_)
    · refine lv_bipush (v := (-2)) hx hb dX11_agree_17 (by decide) ?_
      subst hAe
      rw [hQ]
      exact W.iret (v := (-2)) hx hb hr (fun t ht hW => ⟨⟨(-2), (), rfl, (mm_wk mm_km2 (by decide)), by rw [ht]; exact hP, hK.warm hW, hD⟩, hS.F ht⟩) hS.2.2 dX11_agree_19
    · have q5 := mm_neL (lo := 1) (mm_ne c4) mm_k0 mm_k0 (by decide) (by decide)
      exact mm_no q5 (by decide)
  · refine lv_if_eq (tgt := 17) hx hb dX11_agree_6 (by decide) (fun c6 => ?_) (fun c6 => ?_)
    · exact mm_eqN c6.symm mm_k0 mm_k1 (by decide)
    · refine lv_aload_n hx hb dX11_agree_9 rfl (lv_at hl 0 rfl) ?_
      refine lv_iload_n hx hb dX11_agree_10 rfl (lv_at hl 3 rfl) ?_
      refine mm_finir (va_runV (As := [.int i_2]) (rest := []) ⟨hx, hb, hml, hown, hts⟩ (K347_X11_isText l G cy H.size a_0 i_2 a_1 a_2 a_3 a_4 a_5 a_6 a_7 a_8 a_9 a_10 a_11 a_12 a_13 i_3 i_4 i_5 i_6 i_7 i_8 i_9 i_10 a_14 a_15 a_16 a_17 a_18 a_19 a_20 a_21 a_22 a_23 h3) (cwV 1 hts (mm_gV mm_w600 mm_w601 mm_w602 mm_w2 mm_w603) rfl rfl rfl hd_X11_isText ⟨by rw [hRf]; exact Nat.le_of_ble_eq_true rfl, by rw [hRl]; exact Nat.le_of_ble_eq_true rfl⟩) (mm_preV hK hZ hS hA hP hD [0, 1, 2] rfl rfl 0 rfl rfl rfl) rfl rfl hl.1 rfl (lv_room (Nat.le_of_ble_eq_true rfl)) dX11_agree_11 ⟨by rw [hRc]; exact Nat.le_of_ble_eq_true rfl, by rw [hRs]; exact Nat.le_of_ble_eq_true rfl⟩) hP hD hS hA [0, 1, 2] rfl (fun _ => rfl) ?_
      clear hP hD hS
      clear H locs
      intro v7 _u H locs hw hP hD hS
      rcases hw with ⟨rfl, w8⟩ | ⟨rfl, w9⟩
      · refine lv_if_ne (tgt := 20) hx hb dX11_agree_14 (by decide) (fun c10 => ?_) (fun c10 => ?_)
        · have q11 := mm_neL (lo := 1) (mm_ne c10) mm_k0 mm_k0 (by decide) (by decide)
          exact mm_no q11 (by decide)
        · refine lv_bipush (v := (-2)) hx hb dX11_agree_17 (by decide) ?_
          subst hAe
          rw [hQ]
          exact W.iret (v := (-2)) hx hb hr (fun t ht hW => ⟨⟨(-2), (), rfl, (mm_wk mm_km2 (by decide)), by rw [ht]; exact hP, hK.warm hW, hD⟩, hS.F ht⟩) hS.2.2 dX11_agree_19
      · refine lv_if_ne (tgt := 20) hx hb dX11_agree_14 (by decide) (fun c12 => ?_) (fun c12 => ?_)
        · refine lv_aload_n hx hb dX11_agree_20 rfl (lv_at hl 0 rfl) ?_
          refine va_get (D := G) (ci := 11) (v := .ref a_3) (C := RX11) (T := TX11) (N := 11) hx hb hts (mm_i inlX11) hown hK.1 hP 0 rfl rfl 2 (by decide) (mm_h hts mm_w24) (fun _ h9 => h9) rfl dX11_agree_21 ?_
          refine lv_iload_n hx hb dX11_agree_24 rfl (lv_at hl 1 rfl) ?_
          refine mm_finir (va_runV (As := [.int i_0]) (rest := []) ⟨hx, hb, hml, hown, hts⟩ (K360_X10_period l G cy H.size a_3 i_0 a_12 a_13 a_24 a_25 a_26 a_27 a_28 i_11 i_12 i_13 a_29 a_30 i_14 i_15 i_16 a_31 a_32 i_17 i_18 i_19 w2 h9 h11 h13) (cwV 1 hts (mm_gV mm_w743 mm_w744 mm_w745 mm_w23 mm_w746) rfl rfl rfl hd_X10_period ⟨by rw [hRf]; exact Nat.le_of_ble_eq_true rfl, by rw [hRl]; exact Nat.le_of_ble_eq_true rfl⟩) (mm_preV hK hZ hS hA hP hD [1, 8, 9, 11, 13] rfl rfl 1 rfl rfl rfl) rfl rfl hl.1 rfl (lv_room (Nat.le_of_ble_eq_true rfl)) dX11_agree_25 ⟨by rw [hRc]; exact Nat.le_of_ble_eq_true rfl, by rw [hRs]; exact Nat.le_of_ble_eq_true rfl⟩) hP hD hS hA [1, 8, 9, 11, 13] rfl (fun _ => rfl) ?_
          clear hP hD hS
          clear H locs
          intro v13 _u H locs hw hP hD hS
          have w14 := hw
          refine lv_istore (lv' := [(4, .int v13), (0, .ref a_0), (1, .int i_0), (2, .int i_1), (3, .int i_2)]) hx hb dX11_agree_28 hl (by decide) rfl ?_
          clear hl
          clear ls
          intro ls hl
          refine lv_iconst (v := 0) hx hb dX11_agree_30 (by decide) ?_
          refine lv_istore (lv' := [(5, .int 0), (4, .int v13), (0, .ref a_0), (1, .int i_0), (2, .int i_1), (3, .int i_2)]) hx hb dX11_agree_31 hl (by decide) rfl ?_
          clear hl
          clear ls
          intro ls hl
          have L33_126 : ∀ (n : Nat) (x33_5_126 : Int32), mm_rg x33_5_126 0 210 → (210 - x33_5_126.toInt).toNat < n → ∀ (H : Heap) (locs : List Loc), va_P G vwCl [(a_0, .inr (11, [.ref a_1, .ref a_2, .ref a_3, .ref a_4, .ref a_5, .ref a_6, .ref a_7, .ref a_8, .ref a_9, .ref a_10, .ref a_11])), (a_3, .inr (10, [.ref a_12, .ref a_13])), (a_12, .inr (0, [.int i_3, .int i_4, .int i_5, .int i_6, .int i_7, .int i_8, .int i_9, .int i_10, .ref a_14, .ref a_15, .ref a_16, .ref a_17, .ref a_18, .ref a_19, .ref a_20, .ref a_21, .ref a_22, .ref a_23])), (a_14, .inl (cy 1, 9, .inl f_0)), (a_15, .inl (cy 1, 9, .inl f_1)), (a_18, .inl (cy 1, 6, .inl f_2)), (a_19, .inl (cy 1, 48, .inl f_3)), (a_20, .inl (cy 1, 30, .inl f_4)), (a_13, .inl (cy 5, 3, .inr (.inr (.inr (.inr (va_up (va_up (va_up (fun _ => none) 0 (some a_24)) 1 (some a_25)) 2 (some a_26))))))), (a_24, .inr (1, [.ref a_27, .ref a_28, .int i_11, .int i_12, .int i_13])), (a_27, .inl (cy 1, 2100, .inl f_5)), (a_25, .inr (1, [.ref a_29, .ref a_30, .int i_14, .int i_15, .int i_16])), (a_29, .inl (cy 1, 2100, .inl f_6)), (a_26, .inr (1, [.ref a_31, .ref a_32, .int i_17, .int i_18, .int i_19])), (a_31, .inl (cy 1, 2100, .inl f_7))] H → va_D A [(a_0, .inr (11, [.ref a_1, .ref a_2, .ref a_3, .ref a_4, .ref a_5, .ref a_6, .ref a_7, .ref a_8, .ref a_9, .ref a_10, .ref a_11])), (a_3, .inr (10, [.ref a_12, .ref a_13])), (a_12, .inr (0, [.int i_3, .int i_4, .int i_5, .int i_6, .int i_7, .int i_8, .int i_9, .int i_10, .ref a_14, .ref a_15, .ref a_16, .ref a_17, .ref a_18, .ref a_19, .ref a_20, .ref a_21, .ref a_22, .ref a_23])), (a_14, .inl (cy 1, 9, .inl f_0)), (a_15, .inl (cy 1, 9, .inl f_1)), (a_18, .inl (cy 1, 6, .inl f_2)), (a_19, .inl (cy 1, 48, .inl f_3)), (a_20, .inl (cy 1, 30, .inl f_4)), (a_13, .inl (cy 5, 3, .inr (.inr (.inr (.inr (va_up (va_up (va_up (fun _ => none) 0 (some a_24)) 1 (some a_25)) 2 (some a_26))))))), (a_24, .inr (1, [.ref a_27, .ref a_28, .int i_11, .int i_12, .int i_13])), (a_27, .inl (cy 1, 2100, .inl f_5)), (a_25, .inr (1, [.ref a_29, .ref a_30, .int i_14, .int i_15, .int i_16])), (a_29, .inl (cy 1, 2100, .inl f_6)), (a_26, .inr (1, [.ref a_31, .ref a_32, .int i_17, .int i_18, .int i_19])), (a_31, .inl (cy 1, 2100, .inl f_7))] → va_S A s.heap H locs → ∀ (ls : Array Slot), lv_has ls 6 [(5, .int x33_5_126), (4, .int v13), (0, .ref a_0), (1, .int i_0), (2, .int i_1), (3, .int i_2)] → W p l e R s m args below meth c H locs 0 0 Q (F0 m 33 ls []) := by
            intro n
            induction n with
            | zero => intro x33_5_126 rx33_5_126 hm; exact absurd hm (Nat.not_lt_zero _)
            | succ n ih33 =>
              intro x33_5_126 rx33_5_126 hm33 H locs hP hD hS ls hl
              refine lv_iload hx hb dX11_agree_33 (lv_at hl 0 rfl) ?_
              refine lv_iload hx hb dX11_agree_35 (lv_at hl 1 rfl) ?_
              refine lv_icmp_ge (tgt := 74) hx hb dX11_agree_37 (by decide) (fun c128 => ?_) (fun c128 => ?_)
              · refine lv_iconst (v := (-1)) hx hb dX11_agree_74 (by decide) ?_
                subst hAe
                rw [hQ]
                exact W.iret (v := (-1)) hx hb hr (fun t ht hW => ⟨⟨(-1), (), rfl, (mm_wk mm_km1 (by decide)), by rw [ht]; exact hP, hK.warm hW, hD⟩, hS.F ht⟩) hS.2.2 dX11_agree_75
              · have q129 := mm_ltL (h := 209) (mm_nle c128) rx33_5_126 w14 (by decide)
                have q130 := mm_ltR (lo := 1) (mm_nle c128) rx33_5_126 w14 (by decide)
                refine lv_aload_n hx hb dX11_agree_40 rfl (lv_at hl 2 rfl) ?_
                refine va_get (D := G) (ci := 11) (v := .ref a_3) (C := RX11) (T := TX11) (N := 11) hx hb hts (mm_i inlX11) hown hK.1 hP 0 rfl rfl 2 (by decide) (mm_h hts mm_w24) (fun _ h9 => h9) rfl dX11_agree_41 ?_
                refine lv_iload_n hx hb dX11_agree_44 rfl (lv_at hl 3 rfl) ?_
                refine lv_iload hx hb dX11_agree_45 (lv_at hl 0 rfl) ?_
                refine lv_iload_n hx hb dX11_agree_47 rfl (lv_at hl 4 rfl) ?_
                refine mm_finir (va_runV (As := [.int i_0, .int x33_5_126, .int i_1]) (rest := []) ⟨hx, hb, hml, hown, hts⟩ (K374_X10_leaving l G cy H.size a_3 i_0 x33_5_126 i_1 a_12 a_13 i_3 i_4 i_5 i_6 i_7 i_8 i_9 i_10 a_14 a_15 a_16 a_17 a_18 a_19 a_20 a_21 a_22 a_23 f_0 f_1 f_2 f_3 f_4 a_24 a_25 a_26 a_27 a_28 i_11 i_12 i_13 f_5 a_29 a_30 i_14 i_15 i_16 f_6 a_31 a_32 i_17 i_18 i_19 f_7 w2 (mm_wk q129 (by decide)) w3 h0 h1 h4 h5 h6 h7 h8 h9 h10 h11 h12 h13 h14) (cwV 3 hts (mm_gV mm_w829 mm_w830 mm_w831 mm_w23 mm_w832) rfl rfl rfl hd_X10_leaving ⟨by rw [hRf]; exact Nat.le_of_ble_eq_true rfl, by rw [hRl]; exact Nat.le_of_ble_eq_true rfl⟩) (mm_preV hK hZ hS hA hP hD [1, 2, 3, 4, 5, 6, 7, 8, 9, 10, 11, 12, 13, 14] rfl rfl 1 rfl rfl rfl) rfl rfl hl.1 rfl (lv_room (Nat.le_of_ble_eq_true rfl)) dX11_agree_48 ⟨by rw [hRc]; exact Nat.le_of_ble_eq_true rfl, by rw [hRs]; exact Nat.le_of_ble_eq_true rfl⟩) hP hD hS hA [1, 2, 3, 4, 5, 6, 7, 8, 9, 10, 11, 12, 13, 14] rfl (fun _ => rfl) ?_
                clear hP hD hS
                clear H locs
                intro v131 _u H locs hw hP hD hS
                refine lv_aload_n hx hb dX11_agree_51 rfl (lv_at hl 2 rfl) ?_
                refine va_get (D := G) (ci := 11) (v := .ref a_3) (C := RX11) (T := TX11) (N := 11) hx hb hts (mm_i inlX11) hown hK.1 hP 0 rfl rfl 2 (by decide) (mm_h hts mm_w24) (fun _ h9 => h9) rfl dX11_agree_52 ?_
                refine lv_iload_n hx hb dX11_agree_55 rfl (lv_at hl 3 rfl) ?_
                refine lv_iload hx hb dX11_agree_56 (lv_at hl 0 rfl) ?_
                refine lv_iload_n hx hb dX11_agree_58 rfl (lv_at hl 5 rfl) ?_
                refine mm_finir (va_runV (As := [.int i_0, .int x33_5_126, .int i_2]) (rest := [.int v131]) ⟨hx, hb, hml, hown, hts⟩ (K374_X10_leaving l G cy H.size a_3 i_0 x33_5_126 i_2 a_12 a_13 i_3 i_4 i_5 i_6 i_7 i_8 i_9 i_10 a_14 a_15 a_16 a_17 a_18 a_19 a_20 a_21 a_22 a_23 f_0 f_1 f_2 f_3 f_4 a_24 a_25 a_26 a_27 a_28 i_11 i_12 i_13 f_5 a_29 a_30 i_14 i_15 i_16 f_6 a_31 a_32 i_17 i_18 i_19 f_7 w2 (mm_wk q129 (by decide)) w9 h0 h1 h4 h5 h6 h7 h8 h9 h10 h11 h12 h13 h14) (cwV 3 hts (mm_gV mm_w829 mm_w830 mm_w831 mm_w23 mm_w832) rfl rfl rfl hd_X10_leaving ⟨by rw [hRf]; exact Nat.le_of_ble_eq_true rfl, by rw [hRl]; exact Nat.le_of_ble_eq_true rfl⟩) (mm_preV hK hZ hS hA hP hD [1, 2, 3, 4, 5, 6, 7, 8, 9, 10, 11, 12, 13, 14] rfl rfl 1 rfl rfl rfl) rfl rfl hl.1 rfl (lv_room (Nat.le_of_ble_eq_true rfl)) dX11_agree_59 ⟨by rw [hRc]; exact Nat.le_of_ble_eq_true rfl, by rw [hRs]; exact Nat.le_of_ble_eq_true rfl⟩) hP hD hS hA [1, 2, 3, 4, 5, 6, 7, 8, 9, 10, 11, 12, 13, 14] rfl (fun _ => rfl) ?_
                clear hP hD hS
                clear H locs
                intro v132 _u H locs hw hP hD hS
                refine lv_icmp_ne (tgt := 68) hx hb dX11_agree_62 (by decide) (fun c133 => ?_) (fun c133 => ?_)
                · obtain ⟨v134, ev134⟩ : ∃ y : Int32, y = x33_5_126 + 1 := ⟨_, rfl⟩
                  refine lv_iinc (v := v134) (lv' := [(5, .int v134), (4, .int v13), (0, .ref a_0), (1, .int i_0), (2, .int i_1), (3, .int i_2)]) hx hb dX11_agree_68 hl (k := 0) rfl (by rw [ev134]; rfl) (by decide) rfl ?_
                  clear hl
                  clear ls
                  intro ls hl
                  have rv134 : mm_rg v134 1 210 := mm_add ev134 q129 mm_k1 (by decide) (by decide)
                  have tv134 := mm_addEc ev134 q129 mm_k1 (by decide) (k := 1) (by decide)
                  refine lv_goto (tgt := 33) hx hb dX11_agree_71 (by decide) ?_
                  exact ih33 v134 (mm_wk rv134 (by decide)) (mm_mu hm33 tv134 (by decide) (rv134).2 (by decide)) H locs hP hD hS ls (lv_sub hl [0, 1, 2, 3, 4, 5] rfl)
                · refine lv_iload hx hb dX11_agree_65 (lv_at hl 0 rfl) ?_
                  subst hAe
                  rw [hQ]
                  exact W.iret (v := x33_5_126) hx hb hr (fun t ht hW => ⟨⟨x33_5_126, (), rfl, (mm_wk q129 (by decide)), by rw [ht]; exact hP, hK.warm hW, hD⟩, hS.F ht⟩) hS.2.2 dX11_agree_67
          exact L33_126 _ 0 (mm_wk mm_k0 (by decide)) (Nat.lt_succ_self _) H locs hP hD hS ls (lv_sub hl [0, 1, 2, 3, 4, 5] rfl)
        · exact mm_eqN c12.symm mm_k0 mm_k1 (by decide)

set_option maxHeartbeats 4000000 in
set_option maxRecDepth 100000 in
theorem K410_X11_days (l : Launch) (G : va_G) (cy : Nat → ClassId) (sz : Nat) (a_0 : Nat) (i_0 : Int32) (i_1 : Int32) (i_2 : Int32) (a_1 : Nat) (a_2 : Nat) (a_3 : Nat) (a_4 : Nat) (a_5 : Nat) (a_6 : Nat) (a_7 : Nat) (a_8 : Nat) (a_9 : Nat) (a_10 : Nat) (a_11 : Nat) (a_12 : Nat) (a_13 : Nat) (i_3 : Int32) (i_4 : Int32) (i_5 : Int32) (i_6 : Int32) (i_7 : Int32) (i_8 : Int32) (i_9 : Int32) (i_10 : Int32) (a_14 : Nat) (a_15 : Nat) (a_16 : Nat) (a_17 : Nat) (a_18 : Nat) (a_19 : Nat) (a_20 : Nat) (a_21 : Nat) (a_22 : Nat) (a_23 : Nat) (f_0 : Nat → Int32) (f_1 : Nat → Int32) (f_2 : Nat → Int32) (f_3 : Nat → Int32) (f_4 : Nat → Int32) (a_24 : Nat) (a_25 : Nat) (a_26 : Nat) (a_27 : Nat) (a_28 : Nat) (i_11 : Int32) (i_12 : Int32) (i_13 : Int32) (f_5 : Nat → Int32) (a_29 : Nat) (a_30 : Nat) (i_14 : Int32) (i_15 : Int32) (i_16 : Int32) (f_6 : Nat → Int32) (a_31 : Nat) (a_32 : Nat) (i_17 : Int32) (i_18 : Int32) (i_19 : Int32) (f_7 : Nat → Int32) (h0 : mm_rg i_6 0 99) (h1 : mm_rg i_7 0 9) (h2 : mm_rg i_8 0 3) (h3 : mm_rg i_9 0 6) (h4 : mm_ar f_0 (-1) 4) (h5 : mm_ar f_1 0 99) (h6 : mm_ar f_2 0 8) (h7 : mm_ar f_3 0 9) (h8 : mm_ar f_4 0 9) (h9 : mm_rg i_13 (-2147483648) 210) (h10 : mm_ar f_5 0 9) (h11 : mm_rg i_16 (-2147483648) 210) (h12 : mm_ar f_6 0 9) (h13 : mm_rg i_19 (-2147483648) 210) (h14 : mm_ar f_7 0 9)  : mm_CI l yX11_days (mm_ws yX11_days cX11_days 7 (some .int)) ({ frames := 4, cells := 0, slots := 0, locals := 111 } : Room) G cy sz [(a_0, .inr (11, [.ref a_1, .ref a_2, .ref a_3, .ref a_4, .ref a_5, .ref a_6, .ref a_7, .ref a_8, .ref a_9, .ref a_10, .ref a_11])), (a_3, .inr (10, [.ref a_12, .ref a_13])), (a_12, .inr (0, [.int i_3, .int i_4, .int i_5, .int i_6, .int i_7, .int i_8, .int i_9, .int i_10, .ref a_14, .ref a_15, .ref a_16, .ref a_17, .ref a_18, .ref a_19, .ref a_20, .ref a_21, .ref a_22, .ref a_23])), (a_14, .inl (cy 1, 9, .inl f_0)), (a_15, .inl (cy 1, 9, .inl f_1)), (a_18, .inl (cy 1, 6, .inl f_2)), (a_19, .inl (cy 1, 48, .inl f_3)), (a_20, .inl (cy 1, 30, .inl f_4)), (a_13, .inl (cy 5, 3, .inr (.inr (.inr (.inr (va_up (va_up (va_up (fun _ => none) 0 (some a_24)) 1 (some a_25)) 2 (some a_26))))))), (a_24, .inr (1, [.ref a_27, .ref a_28, .int i_11, .int i_12, .int i_13])), (a_27, .inl (cy 1, 2100, .inl f_5)), (a_25, .inr (1, [.ref a_29, .ref a_30, .int i_14, .int i_15, .int i_16])), (a_29, .inl (cy 1, 2100, .inl f_6)), (a_26, .inr (1, [.ref a_31, .ref a_32, .int i_17, .int i_18, .int i_19])), (a_31, .inl (cy 1, 2100, .inl f_7))] [.ref a_0, .int i_0, .int i_1, .int i_2] (fun u : Unit => [(a_0, .inr (11, [.ref a_1, .ref a_2, .ref a_3, .ref a_4, .ref a_5, .ref a_6, .ref a_7, .ref a_8, .ref a_9, .ref a_10, .ref a_11])), (a_3, .inr (10, [.ref a_12, .ref a_13])), (a_12, .inr (0, [.int i_3, .int i_4, .int i_5, .int i_6, .int i_7, .int i_8, .int i_9, .int i_10, .ref a_14, .ref a_15, .ref a_16, .ref a_17, .ref a_18, .ref a_19, .ref a_20, .ref a_21, .ref a_22, .ref a_23])), (a_14, .inl (cy 1, 9, .inl f_0)), (a_15, .inl (cy 1, 9, .inl f_1)), (a_18, .inl (cy 1, 6, .inl f_2)), (a_19, .inl (cy 1, 48, .inl f_3)), (a_20, .inl (cy 1, 30, .inl f_4)), (a_13, .inl (cy 5, 3, .inr (.inr (.inr (.inr (va_up (va_up (va_up (fun _ => none) 0 (some a_24)) 1 (some a_25)) 2 (some a_26))))))), (a_24, .inr (1, [.ref a_27, .ref a_28, .int i_11, .int i_12, .int i_13])), (a_27, .inl (cy 1, 2100, .inl f_5)), (a_25, .inr (1, [.ref a_29, .ref a_30, .int i_14, .int i_15, .int i_16])), (a_29, .inl (cy 1, 2100, .inl f_6)), (a_26, .inr (1, [.ref a_31, .ref a_32, .int i_17, .int i_18, .int i_19])), (a_31, .inl (cy 1, 2100, .inl f_7))]) (fun (r : Int32) (u : Unit) => True) 0 0 := by
  refine mm_begin (lv := [(0, .ref a_0), (1, .int i_0), (2, .int i_1), (3, .int i_2)]) (by decide) (Nat.le_of_ble_eq_true rfl) rfl ?_
  intro p e s m below meth c A ls R args Q H locs hRe hQ hAe hx hb hr hlocks hml hown hnm hts hsz hA hS hP hK hD hZ hl
  have hRf : R.frames = 4 := by rw [hRe]
  have hRl : R.locals = 111 := by rw [hRe]
  have hRc : R.cells = 0 := by rw [hRe]
  have hRs : R.slots = 0 := by rw [hRe]
  refine lv_aload_n hx hb dX11_days_0 rfl (lv_at hl 0 rfl) ?_
  refine lv_iload_n hx hb dX11_days_1 rfl (lv_at hl 1 rfl) ?_
  refine lv_iload_n hx hb dX11_days_2 rfl (lv_at hl 2 rfl) ?_
  refine mm_finir (va_runV (As := [.int i_0, .int i_1]) (rest := []) ⟨hx, hb, hml, hown, hts⟩ (K388_X11_isLandAndText l G cy H.size a_0 i_0 i_1 a_1 a_2 a_3 a_4 a_5 a_6 a_7 a_8 a_9 a_10 a_11 a_12 a_13 i_3 i_4 i_5 i_6 i_7 i_8 i_9 i_10 a_14 a_15 a_16 a_17 a_18 a_19 a_20 a_21 a_22 a_23 h2 h3) (cwV 2 hts (mm_gV mm_w955 mm_w956 mm_w957 mm_w2 mm_w958) rfl rfl rfl hd_X11_isLandAndText ⟨by rw [hRf]; exact Nat.le_of_ble_eq_true rfl, by rw [hRl]; exact Nat.le_of_ble_eq_true rfl⟩) (mm_preV hK hZ hS hA hP hD [0, 1, 2] rfl rfl 0 rfl rfl rfl) rfl rfl hl.1 rfl (lv_room (Nat.le_of_ble_eq_true rfl)) dX11_days_3 ⟨by rw [hRc]; exact Nat.le_of_ble_eq_true rfl, by rw [hRs]; exact Nat.le_of_ble_eq_true rfl⟩) hP hD hS hA [0, 1, 2] rfl (fun _ => rfl) ?_
  clear hP hD hS
  clear H locs
  intro v1 _u H locs hw hP hD hS
  rcases hw with rfl | ⟨rfl, w2, w3⟩
  · refine lv_if_eq (tgt := 16) hx hb dX11_days_6 (by decide) (fun c4 => ?_) (fun c4 => ?_)
    · refine lv_bipush (v := (-2)) hx hb dX11_days_16 (by decide) ?_
      subst hAe
      rw [hQ]
      exact W.iret (v := (-2)) hx hb hr (fun t ht hW => ⟨⟨(-2), (), rfl, trivial, by rw [ht]; exact hP, hK.warm hW, hD⟩, hS.F ht⟩) hS.2.2 dX11_days_18
    · have q5 := mm_neL (lo := 1) (mm_ne c4) mm_k0 mm_k0 (by decide) (by decide)
      exact mm_no q5 (by decide)
  · refine lv_if_eq (tgt := 16) hx hb dX11_days_6 (by decide) (fun c6 => ?_) (fun c6 => ?_)
    · exact mm_eqN c6.symm mm_k0 mm_k1 (by decide)
    · refine lv_iload_n hx hb dX11_days_9 rfl (lv_at hl 3 rfl) ?_
      refine mm_finir (va_runS (As := [.int i_2]) (rest := []) ⟨hx, hb, hml, hown, hts⟩ (K382_X11_isStock l G cy H.size i_2 ) (va_cwS 1 hts (mm_gS mm_w915 mm_w916 mm_w2 mm_w917) rfl rfl rfl hs_X11_isStock ⟨by rw [hRf]; exact Nat.le_of_ble_eq_true rfl, by rw [hRl]; exact Nat.le_of_ble_eq_true rfl⟩) (mm_preS hK hZ hS hA hP hD [] rfl rfl) rfl rfl hl.1 rfl (lv_room (Nat.le_of_ble_eq_true rfl)) dX11_days_10 ⟨by rw [hRc]; exact Nat.le_of_ble_eq_true rfl, by rw [hRs]; exact Nat.le_of_ble_eq_true rfl⟩) hP hD hS hA [] rfl (fun _ => rfl) ?_
      clear hP hD hS
      clear H locs
      intro v7 _u H locs hw hP hD hS
      rcases hw with ⟨rfl, w8⟩ | ⟨rfl, w9⟩
      · refine lv_if_ne (tgt := 19) hx hb dX11_days_13 (by decide) (fun c10 => ?_) (fun c10 => ?_)
        · have q11 := mm_neL (lo := 1) (mm_ne c10) mm_k0 mm_k0 (by decide) (by decide)
          exact mm_no q11 (by decide)
        · refine lv_bipush (v := (-2)) hx hb dX11_days_16 (by decide) ?_
          subst hAe
          rw [hQ]
          exact W.iret (v := (-2)) hx hb hr (fun t ht hW => ⟨⟨(-2), (), rfl, trivial, by rw [ht]; exact hP, hK.warm hW, hD⟩, hS.F ht⟩) hS.2.2 dX11_days_18
      · refine lv_if_ne (tgt := 19) hx hb dX11_days_13 (by decide) (fun c12 => ?_) (fun c12 => ?_)
        · refine lv_iconst (v := 0) hx hb dX11_days_19 (by decide) ?_
          refine lv_istore (lv' := [(4, .int 0), (0, .ref a_0), (1, .int i_0), (2, .int i_1), (3, .int i_2)]) hx hb dX11_days_20 hl (by decide) rfl ?_
          clear hl
          clear ls
          intro ls hl
          refine lv_aload_n hx hb dX11_days_22 rfl (lv_at hl 1 rfl) ?_
          refine va_get (D := G) (ci := 11) (v := .ref a_3) (C := RX11) (T := TX11) (N := 11) hx hb hts (mm_i inlX11) hown hK.1 hP 0 rfl rfl 2 (by decide) (mm_h hts mm_w24) (fun _ h9 => h9) rfl dX11_days_23 ?_
          refine lv_iload_n hx hb dX11_days_26 rfl (lv_at hl 2 rfl) ?_
          refine mm_finir (va_runV (As := [.int i_0]) (rest := []) ⟨hx, hb, hml, hown, hts⟩ (K360_X10_period l G cy H.size a_3 i_0 a_12 a_13 a_24 a_25 a_26 a_27 a_28 i_11 i_12 i_13 a_29 a_30 i_14 i_15 i_16 a_31 a_32 i_17 i_18 i_19 w2 h9 h11 h13) (cwV 1 hts (mm_gV mm_w743 mm_w744 mm_w745 mm_w23 mm_w746) rfl rfl rfl hd_X10_period ⟨by rw [hRf]; exact Nat.le_of_ble_eq_true rfl, by rw [hRl]; exact Nat.le_of_ble_eq_true rfl⟩) (mm_preV hK hZ hS hA hP hD [1, 8, 9, 11, 13] rfl rfl 1 rfl rfl rfl) rfl rfl hl.1 rfl (lv_room (Nat.le_of_ble_eq_true rfl)) dX11_days_27 ⟨by rw [hRc]; exact Nat.le_of_ble_eq_true rfl, by rw [hRs]; exact Nat.le_of_ble_eq_true rfl⟩) hP hD hS hA [1, 8, 9, 11, 13] rfl (fun _ => rfl) ?_
          clear hP hD hS
          clear H locs
          intro v13 _u H locs hw hP hD hS
          have w14 := hw
          refine lv_istore (lv' := [(5, .int v13), (4, .int 0), (0, .ref a_0), (1, .int i_0), (2, .int i_1), (3, .int i_2)]) hx hb dX11_days_30 hl (by decide) rfl ?_
          clear hl
          clear ls
          intro ls hl
          refine lv_iconst (v := 0) hx hb dX11_days_32 (by decide) ?_
          refine lv_istore (lv' := [(6, .int 0), (5, .int v13), (4, .int 0), (0, .ref a_0), (1, .int i_0), (2, .int i_1), (3, .int i_2)]) hx hb dX11_days_33 hl (by decide) rfl ?_
          clear hl
          clear ls
          intro ls hl
          have L35_253 : ∀ (n : Nat) (x35_6_252 : Int32) (x35_4_253 : Int32), mm_rg x35_6_252 0 210 → (210 - x35_6_252.toInt).toNat < n → ∀ (H : Heap) (locs : List Loc), va_P G vwCl [(a_0, .inr (11, [.ref a_1, .ref a_2, .ref a_3, .ref a_4, .ref a_5, .ref a_6, .ref a_7, .ref a_8, .ref a_9, .ref a_10, .ref a_11])), (a_3, .inr (10, [.ref a_12, .ref a_13])), (a_12, .inr (0, [.int i_3, .int i_4, .int i_5, .int i_6, .int i_7, .int i_8, .int i_9, .int i_10, .ref a_14, .ref a_15, .ref a_16, .ref a_17, .ref a_18, .ref a_19, .ref a_20, .ref a_21, .ref a_22, .ref a_23])), (a_14, .inl (cy 1, 9, .inl f_0)), (a_15, .inl (cy 1, 9, .inl f_1)), (a_18, .inl (cy 1, 6, .inl f_2)), (a_19, .inl (cy 1, 48, .inl f_3)), (a_20, .inl (cy 1, 30, .inl f_4)), (a_13, .inl (cy 5, 3, .inr (.inr (.inr (.inr (va_up (va_up (va_up (fun _ => none) 0 (some a_24)) 1 (some a_25)) 2 (some a_26))))))), (a_24, .inr (1, [.ref a_27, .ref a_28, .int i_11, .int i_12, .int i_13])), (a_27, .inl (cy 1, 2100, .inl f_5)), (a_25, .inr (1, [.ref a_29, .ref a_30, .int i_14, .int i_15, .int i_16])), (a_29, .inl (cy 1, 2100, .inl f_6)), (a_26, .inr (1, [.ref a_31, .ref a_32, .int i_17, .int i_18, .int i_19])), (a_31, .inl (cy 1, 2100, .inl f_7))] H → va_D A [(a_0, .inr (11, [.ref a_1, .ref a_2, .ref a_3, .ref a_4, .ref a_5, .ref a_6, .ref a_7, .ref a_8, .ref a_9, .ref a_10, .ref a_11])), (a_3, .inr (10, [.ref a_12, .ref a_13])), (a_12, .inr (0, [.int i_3, .int i_4, .int i_5, .int i_6, .int i_7, .int i_8, .int i_9, .int i_10, .ref a_14, .ref a_15, .ref a_16, .ref a_17, .ref a_18, .ref a_19, .ref a_20, .ref a_21, .ref a_22, .ref a_23])), (a_14, .inl (cy 1, 9, .inl f_0)), (a_15, .inl (cy 1, 9, .inl f_1)), (a_18, .inl (cy 1, 6, .inl f_2)), (a_19, .inl (cy 1, 48, .inl f_3)), (a_20, .inl (cy 1, 30, .inl f_4)), (a_13, .inl (cy 5, 3, .inr (.inr (.inr (.inr (va_up (va_up (va_up (fun _ => none) 0 (some a_24)) 1 (some a_25)) 2 (some a_26))))))), (a_24, .inr (1, [.ref a_27, .ref a_28, .int i_11, .int i_12, .int i_13])), (a_27, .inl (cy 1, 2100, .inl f_5)), (a_25, .inr (1, [.ref a_29, .ref a_30, .int i_14, .int i_15, .int i_16])), (a_29, .inl (cy 1, 2100, .inl f_6)), (a_26, .inr (1, [.ref a_31, .ref a_32, .int i_17, .int i_18, .int i_19])), (a_31, .inl (cy 1, 2100, .inl f_7))] → va_S A s.heap H locs → ∀ (ls : Array Slot), lv_has ls 7 [(6, .int x35_6_252), (5, .int v13), (4, .int x35_4_253), (0, .ref a_0), (1, .int i_0), (2, .int i_1), (3, .int i_2)] → W p l e R s m args below meth c H locs 0 0 Q (F0 m 35 ls []) := by
            intro n
            induction n with
            | zero => intro x35_6_252 x35_4_253 rx35_6_252 hm; exact absurd hm (Nat.not_lt_zero _)
            | succ n ih35 =>
              intro x35_6_252 x35_4_253 rx35_6_252 hm35 H locs hP hD hS ls hl
              refine lv_iload hx hb dX11_days_35 (lv_at hl 0 rfl) ?_
              refine lv_iload hx hb dX11_days_37 (lv_at hl 1 rfl) ?_
              refine lv_icmp_ge (tgt := 66) hx hb dX11_days_39 (by decide) (fun c255 => ?_) (fun c255 => ?_)
              · refine lv_iload hx hb dX11_days_66 (lv_at hl 2 rfl) ?_
                subst hAe
                rw [hQ]
                exact W.iret (v := x35_4_253) hx hb hr (fun t ht hW => ⟨⟨x35_4_253, (), rfl, trivial, by rw [ht]; exact hP, hK.warm hW, hD⟩, hS.F ht⟩) hS.2.2 dX11_days_68
              · have q256 := mm_ltL (h := 209) (mm_nle c255) rx35_6_252 w14 (by decide)
                have q257 := mm_ltR (lo := 1) (mm_nle c255) rx35_6_252 w14 (by decide)
                refine lv_aload_n hx hb dX11_days_42 rfl (lv_at hl 3 rfl) ?_
                refine va_get (D := G) (ci := 11) (v := .ref a_3) (C := RX11) (T := TX11) (N := 11) hx hb hts (mm_i inlX11) hown hK.1 hP 0 rfl rfl 2 (by decide) (mm_h hts mm_w24) (fun _ h9 => h9) rfl dX11_days_43 ?_
                refine lv_iload_n hx hb dX11_days_46 rfl (lv_at hl 4 rfl) ?_
                refine lv_iload hx hb dX11_days_47 (lv_at hl 0 rfl) ?_
                refine lv_iload_n hx hb dX11_days_49 rfl (lv_at hl 5 rfl) ?_
                refine mm_finir (va_runV (As := [.int i_0, .int x35_6_252, .int i_1]) (rest := []) ⟨hx, hb, hml, hown, hts⟩ (K374_X10_leaving l G cy H.size a_3 i_0 x35_6_252 i_1 a_12 a_13 i_3 i_4 i_5 i_6 i_7 i_8 i_9 i_10 a_14 a_15 a_16 a_17 a_18 a_19 a_20 a_21 a_22 a_23 f_0 f_1 f_2 f_3 f_4 a_24 a_25 a_26 a_27 a_28 i_11 i_12 i_13 f_5 a_29 a_30 i_14 i_15 i_16 f_6 a_31 a_32 i_17 i_18 i_19 f_7 w2 (mm_wk q256 (by decide)) w3 h0 h1 h4 h5 h6 h7 h8 h9 h10 h11 h12 h13 h14) (cwV 3 hts (mm_gV mm_w829 mm_w830 mm_w831 mm_w23 mm_w832) rfl rfl rfl hd_X10_leaving ⟨by rw [hRf]; exact Nat.le_of_ble_eq_true rfl, by rw [hRl]; exact Nat.le_of_ble_eq_true rfl⟩) (mm_preV hK hZ hS hA hP hD [1, 2, 3, 4, 5, 6, 7, 8, 9, 10, 11, 12, 13, 14] rfl rfl 1 rfl rfl rfl) rfl rfl hl.1 rfl (lv_room (Nat.le_of_ble_eq_true rfl)) dX11_days_50 ⟨by rw [hRc]; exact Nat.le_of_ble_eq_true rfl, by rw [hRs]; exact Nat.le_of_ble_eq_true rfl⟩) hP hD hS hA [1, 2, 3, 4, 5, 6, 7, 8, 9, 10, 11, 12, 13, 14] rfl (fun _ => rfl) ?_
                clear hP hD hS
                clear H locs
                intro v258 _u H locs hw hP hD hS
                refine lv_iload_n hx hb dX11_days_53 rfl (lv_at hl 6 rfl) ?_
                refine lv_icmp_lt (tgt := 60) hx hb dX11_days_54 (by decide) (fun c259 => ?_) (fun c259 => ?_)
                · have q260 := mm_ltL (h := 9998) (mm_lt c259) (mm_top v258) w9 (by decide)
                  obtain ⟨v261, ev261⟩ : ∃ y : Int32, y = x35_6_252 + 1 := ⟨_, rfl⟩
                  refine lv_iinc (v := v261) (lv' := [(6, .int v261), (5, .int v13), (4, .int x35_4_253), (0, .ref a_0), (1, .int i_0), (2, .int i_1), (3, .int i_2)]) hx hb dX11_days_60 hl (k := 0) rfl (by rw [ev261]; rfl) (by decide) rfl ?_
                  clear hl
                  clear ls
                  intro ls hl
                  have rv261 : mm_rg v261 1 210 := mm_add ev261 q256 mm_k1 (by decide) (by decide)
                  have tv261 := mm_addEc ev261 q256 mm_k1 (by decide) (k := 1) (by decide)
                  refine lv_goto (tgt := 35) hx hb dX11_days_63 (by decide) ?_
                  exact ih35 v261 x35_4_253 (mm_wk rv261 (by decide)) (mm_mu hm35 tv261 (by decide) (rv261).2 (by decide)) H locs hP hD hS ls (lv_sub hl [0, 1, 2, 3, 4, 5, 6] rfl)
                · have q262 := mm_leR (mm_nlt c259) w9 (mm_top v258)
                  obtain ⟨v263, ev263⟩ : ∃ y : Int32, y = x35_4_253 + 1 := ⟨_, rfl⟩
                  refine lv_iinc (v := v263) (lv' := [(4, .int v263), (6, .int x35_6_252), (5, .int v13), (0, .ref a_0), (1, .int i_0), (2, .int i_1), (3, .int i_2)]) hx hb dX11_days_57 hl (k := 2) rfl (by rw [ev263]; rfl) (by decide) rfl ?_
                  clear hl
                  clear ls
                  intro ls hl
                  obtain ⟨v264, ev264⟩ : ∃ y : Int32, y = x35_6_252 + 1 := ⟨_, rfl⟩
                  refine lv_iinc (v := v264) (lv' := [(6, .int v264), (4, .int v263), (5, .int v13), (0, .ref a_0), (1, .int i_0), (2, .int i_1), (3, .int i_2)]) hx hb dX11_days_60 hl (k := 1) rfl (by rw [ev264]; rfl) (by decide) rfl ?_
                  clear hl
                  clear ls
                  intro ls hl
                  have rv264 : mm_rg v264 1 210 := mm_add ev264 q256 mm_k1 (by decide) (by decide)
                  have tv264 := mm_addEc ev264 q256 mm_k1 (by decide) (k := 1) (by decide)
                  refine lv_goto (tgt := 35) hx hb dX11_days_63 (by decide) ?_
                  exact ih35 v264 v263 (mm_wk rv264 (by decide)) (mm_mu hm35 tv264 (by decide) (rv264).2 (by decide)) H locs hP hD hS ls (lv_sub hl [0, 2, 1, 3, 4, 5, 6] rfl)
          exact L35_253 _ 0 0 (mm_wk mm_k0 (by decide)) (Nat.lt_succ_self _) H locs hP hD hS ls (lv_sub hl [0, 1, 2, 3, 4, 5, 6] rfl)
        · exact mm_eqN c12.symm mm_k0 mm_k1 (by decide)

set_option maxHeartbeats 4000000 in
set_option maxRecDepth 100000 in
theorem K411_X10_gains (l : Launch) (G : va_G) (cy : Nat → ClassId) (sz : Nat) (a_0 : Nat) (i_0 : Int32) (i_1 : Int32) (i_2 : Int32) (a_1 : Nat) (a_2 : Nat) (i_3 : Int32) (i_4 : Int32) (i_5 : Int32) (i_6 : Int32) (i_7 : Int32) (i_8 : Int32) (i_9 : Int32) (i_10 : Int32) (a_3 : Nat) (a_4 : Nat) (a_5 : Nat) (a_6 : Nat) (a_7 : Nat) (a_8 : Nat) (a_9 : Nat) (a_10 : Nat) (a_11 : Nat) (a_12 : Nat) (f_0 : Nat → Int32) (f_1 : Nat → Int32) (f_2 : Nat → Int32) (f_3 : Nat → Int32) (f_4 : Nat → Int32) (a_13 : Nat) (a_14 : Nat) (a_15 : Nat) (a_16 : Nat) (a_17 : Nat) (i_11 : Int32) (i_12 : Int32) (i_13 : Int32) (f_5 : Nat → Int32) (a_18 : Nat) (a_19 : Nat) (i_14 : Int32) (i_15 : Int32) (i_16 : Int32) (f_6 : Nat → Int32) (a_20 : Nat) (a_21 : Nat) (i_17 : Int32) (i_18 : Int32) (i_19 : Int32) (f_7 : Nat → Int32) (h0 : mm_rg i_0 0 2) (h1 : mm_rg i_1 0 2147483647) (h2 : mm_rg i_2 0 5) (h3 : mm_rg i_6 0 99) (h4 : mm_rg i_7 0 9) (h5 : mm_ar f_0 (-1) 4) (h6 : mm_ar f_1 0 99) (h7 : mm_ar f_2 0 8) (h8 : mm_ar f_3 0 9) (h9 : mm_ar f_4 0 9) (h10 : mm_rg i_13 (-2147483648) 210) (h11 : mm_ar f_5 0 9) (h12 : mm_rg i_16 (-2147483648) 210) (h13 : mm_ar f_6 0 9) (h14 : mm_rg i_19 (-2147483648) 210) (h15 : mm_ar f_7 0 9)  : mm_CI l yX10_gains (mm_ws yX10_gains cX10_gains 4 (some .boolean)) ({ frames := 4, cells := 0, slots := 0, locals := 111 } : Room) G cy sz [(a_0, .inr (10, [.ref a_1, .ref a_2])), (a_1, .inr (0, [.int i_3, .int i_4, .int i_5, .int i_6, .int i_7, .int i_8, .int i_9, .int i_10, .ref a_3, .ref a_4, .ref a_5, .ref a_6, .ref a_7, .ref a_8, .ref a_9, .ref a_10, .ref a_11, .ref a_12])), (a_3, .inl (cy 1, 9, .inl f_0)), (a_4, .inl (cy 1, 9, .inl f_1)), (a_7, .inl (cy 1, 6, .inl f_2)), (a_8, .inl (cy 1, 48, .inl f_3)), (a_9, .inl (cy 1, 30, .inl f_4)), (a_2, .inl (cy 5, 3, .inr (.inr (.inr (.inr (va_up (va_up (va_up (fun _ => none) 0 (some a_13)) 1 (some a_14)) 2 (some a_15))))))), (a_13, .inr (1, [.ref a_16, .ref a_17, .int i_11, .int i_12, .int i_13])), (a_16, .inl (cy 1, 2100, .inl f_5)), (a_14, .inr (1, [.ref a_18, .ref a_19, .int i_14, .int i_15, .int i_16])), (a_18, .inl (cy 1, 2100, .inl f_6)), (a_15, .inr (1, [.ref a_20, .ref a_21, .int i_17, .int i_18, .int i_19])), (a_20, .inl (cy 1, 2100, .inl f_7))] [.ref a_0, .int i_0, .int i_1, .int i_2] (fun u : Unit => [(a_0, .inr (10, [.ref a_1, .ref a_2])), (a_1, .inr (0, [.int i_3, .int i_4, .int i_5, .int i_6, .int i_7, .int i_8, .int i_9, .int i_10, .ref a_3, .ref a_4, .ref a_5, .ref a_6, .ref a_7, .ref a_8, .ref a_9, .ref a_10, .ref a_11, .ref a_12])), (a_3, .inl (cy 1, 9, .inl f_0)), (a_4, .inl (cy 1, 9, .inl f_1)), (a_7, .inl (cy 1, 6, .inl f_2)), (a_8, .inl (cy 1, 48, .inl f_3)), (a_9, .inl (cy 1, 30, .inl f_4)), (a_2, .inl (cy 5, 3, .inr (.inr (.inr (.inr (va_up (va_up (va_up (fun _ => none) 0 (some a_13)) 1 (some a_14)) 2 (some a_15))))))), (a_13, .inr (1, [.ref a_16, .ref a_17, .int i_11, .int i_12, .int i_13])), (a_16, .inl (cy 1, 2100, .inl f_5)), (a_14, .inr (1, [.ref a_18, .ref a_19, .int i_14, .int i_15, .int i_16])), (a_18, .inl (cy 1, 2100, .inl f_6)), (a_15, .inr (1, [.ref a_20, .ref a_21, .int i_17, .int i_18, .int i_19])), (a_20, .inl (cy 1, 2100, .inl f_7))]) (fun (r : Int32) (u : Unit) => ((0 = r) ∨ (1 = r))) 0 0 := by
  refine mm_begin (lv := [(0, .ref a_0), (1, .int i_0), (2, .int i_1), (3, .int i_2)]) (by decide) (Nat.le_of_ble_eq_true rfl) rfl ?_
  intro p e s m below meth c A ls R args Q H locs hRe hQ hAe hx hb hr hlocks hml hown hnm hts hsz hA hS hP hK hD hZ hl
  have hRf : R.frames = 4 := by rw [hRe]
  have hRl : R.locals = 111 := by rw [hRe]
  have hRc : R.cells = 0 := by rw [hRe]
  have hRs : R.slots = 0 := by rw [hRe]
  refine lv_aload_n hx hb dX10_gains_0 rfl (lv_at hl 0 rfl) ?_
  refine lv_iload_n hx hb dX10_gains_1 rfl (lv_at hl 1 rfl) ?_
  refine lv_iload_n hx hb dX10_gains_2 rfl (lv_at hl 2 rfl) ?_
  refine lv_iload_n hx hb dX10_gains_3 rfl (lv_at hl 3 rfl) ?_
  refine mm_finir (va_runV (As := [.int i_0, .int i_1, .int i_2]) (rest := []) ⟨hx, hb, hml, hown, hts⟩ (K374_X10_leaving l G cy H.size a_0 i_0 i_1 i_2 a_1 a_2 i_3 i_4 i_5 i_6 i_7 i_8 i_9 i_10 a_3 a_4 a_5 a_6 a_7 a_8 a_9 a_10 a_11 a_12 f_0 f_1 f_2 f_3 f_4 a_13 a_14 a_15 a_16 a_17 i_11 i_12 i_13 f_5 a_18 a_19 i_14 i_15 i_16 f_6 a_20 a_21 i_17 i_18 i_19 f_7 h0 h1 h2 h3 h4 h5 h6 h7 h8 h9 h10 h11 h12 h13 h14 h15) (cwV 3 hts (mm_gV mm_w906 mm_w830 mm_w831 mm_w23 mm_w832) rfl rfl rfl hd_X10_leaving ⟨by rw [hRf]; exact Nat.le_of_ble_eq_true rfl, by rw [hRl]; exact Nat.le_of_ble_eq_true rfl⟩) (mm_preV hK hZ hS hA hP hD [0, 1, 2, 3, 4, 5, 6, 7, 8, 9, 10, 11, 12, 13] rfl rfl 0 rfl rfl rfl) rfl rfl hl.1 rfl (lv_room (Nat.le_of_ble_eq_true rfl)) dX10_gains_4 ⟨by rw [hRc]; exact Nat.le_of_ble_eq_true rfl, by rw [hRs]; exact Nat.le_of_ble_eq_true rfl⟩) hP hD hS hA [0, 1, 2, 3, 4, 5, 6, 7, 8, 9, 10, 11, 12, 13] rfl (fun _ => rfl) ?_
  clear hP hD hS
  clear H locs
  intro v1 _u H locs hw hP hD hS
  refine lv_aload_n hx hb dX10_gains_7 rfl (lv_at hl 0 rfl) ?_
  refine va_get (D := G) (ci := 10) (v := .ref a_1) (C := RX10) (T := TX10) (N := 2) hx hb hts (mm_i inlX10) hown hK.1 hP 0 rfl rfl 0 (by decide) (mm_h hts mm_w87) (fun _ h9 => h9) rfl dX10_gains_8 ?_
  refine va_get (D := G) (ci := 0) (v := .int i_6) (C := RX0) (T := TX0) (N := 18) hx hb hts (mm_i inlX0) hown hK.1 hP 1 rfl rfl 3 (by decide) (mm_h hts mm_w833) (fun _ h9 => h9) rfl dX10_gains_11 ?_
  refine lv_icmp_le (tgt := 21) hx hb dX10_gains_14 (by decide) (fun c2 => ?_) (fun c2 => ?_)
  · have q3 := mm_leL (mm_le c2) (mm_top v1) h3
    refine lv_iconst (v := 0) hx hb dX10_gains_21 (by decide) ?_
    subst hAe
    rw [hQ]
    exact W.zret (v := 0) hx hb hr rfl (fun t ht hW => ⟨⟨0, (), rfl, (Or.inl rfl), by rw [ht]; exact hP, hK.warm hW, hD⟩, hS.F ht⟩) hS.2.2 dX10_gains_22
  · have q4 := mm_ltR (lo := 1) (mm_nle c2) h3 (mm_top v1) (by decide)
    refine lv_iconst (v := 1) hx hb dX10_gains_17 (by decide) ?_
    refine lv_goto (tgt := 22) hx hb dX10_gains_18 (by decide) ?_
    subst hAe
    rw [hQ]
    exact W.zret (v := 1) hx hb hr rfl (fun t ht hW => ⟨⟨1, (), rfl, (Or.inr rfl), by rw [ht]; exact hP, hK.warm hW, hD⟩, hS.F ht⟩) hS.2.2 dX10_gains_22

set_option maxHeartbeats 4000000 in
set_option maxRecDepth 100000 in
theorem K412_X11_run (l : Launch) (G : va_G) (cy : Nat → ClassId) (sz : Nat) (a_0 : Nat) (i_0 : Int32) (i_1 : Int32) (a_1 : Nat) (a_2 : Nat) (a_3 : Nat) (a_4 : Nat) (a_5 : Nat) (a_6 : Nat) (a_7 : Nat) (a_8 : Nat) (a_9 : Nat) (a_10 : Nat) (a_11 : Nat) (a_12 : Nat) (a_13 : Nat) (i_2 : Int32) (i_3 : Int32) (i_4 : Int32) (i_5 : Int32) (i_6 : Int32) (i_7 : Int32) (i_8 : Int32) (i_9 : Int32) (a_14 : Nat) (a_15 : Nat) (a_16 : Nat) (a_17 : Nat) (a_18 : Nat) (a_19 : Nat) (a_20 : Nat) (a_21 : Nat) (a_22 : Nat) (a_23 : Nat) (f_0 : Nat → Int32) (f_1 : Nat → Int32) (f_2 : Nat → Int32) (f_3 : Nat → Int32) (f_4 : Nat → Int32) (a_24 : Nat) (a_25 : Nat) (a_26 : Nat) (a_27 : Nat) (a_28 : Nat) (i_10 : Int32) (i_11 : Int32) (i_12 : Int32) (f_5 : Nat → Int32) (a_29 : Nat) (a_30 : Nat) (i_13 : Int32) (i_14 : Int32) (i_15 : Int32) (f_6 : Nat → Int32) (a_31 : Nat) (a_32 : Nat) (i_16 : Int32) (i_17 : Int32) (i_18 : Int32) (f_7 : Nat → Int32) (h0 : mm_rg i_5 0 99) (h1 : mm_rg i_6 0 9) (h2 : mm_rg i_7 0 3) (h3 : mm_rg i_8 0 6) (h4 : mm_ar f_0 (-1) 4) (h5 : mm_ar f_1 0 99) (h6 : mm_ar f_2 0 8) (h7 : mm_ar f_3 0 9) (h8 : mm_ar f_4 0 9) (h9 : mm_rg i_12 (-2147483648) 210) (h10 : mm_ar f_5 0 9) (h11 : mm_rg i_15 (-2147483648) 210) (h12 : mm_ar f_6 0 9) (h13 : mm_rg i_18 (-2147483648) 210) (h14 : mm_ar f_7 0 9)  : mm_CI l yX11_run (mm_ws yX11_run cX11_run 7 (some .int)) ({ frames := 5, cells := 0, slots := 0, locals := 134 } : Room) G cy sz [(a_0, .inr (11, [.ref a_1, .ref a_2, .ref a_3, .ref a_4, .ref a_5, .ref a_6, .ref a_7, .ref a_8, .ref a_9, .ref a_10, .ref a_11])), (a_3, .inr (10, [.ref a_12, .ref a_13])), (a_12, .inr (0, [.int i_2, .int i_3, .int i_4, .int i_5, .int i_6, .int i_7, .int i_8, .int i_9, .ref a_14, .ref a_15, .ref a_16, .ref a_17, .ref a_18, .ref a_19, .ref a_20, .ref a_21, .ref a_22, .ref a_23])), (a_14, .inl (cy 1, 9, .inl f_0)), (a_15, .inl (cy 1, 9, .inl f_1)), (a_18, .inl (cy 1, 6, .inl f_2)), (a_19, .inl (cy 1, 48, .inl f_3)), (a_20, .inl (cy 1, 30, .inl f_4)), (a_13, .inl (cy 5, 3, .inr (.inr (.inr (.inr (va_up (va_up (va_up (fun _ => none) 0 (some a_24)) 1 (some a_25)) 2 (some a_26))))))), (a_24, .inr (1, [.ref a_27, .ref a_28, .int i_10, .int i_11, .int i_12])), (a_27, .inl (cy 1, 2100, .inl f_5)), (a_25, .inr (1, [.ref a_29, .ref a_30, .int i_13, .int i_14, .int i_15])), (a_29, .inl (cy 1, 2100, .inl f_6)), (a_26, .inr (1, [.ref a_31, .ref a_32, .int i_16, .int i_17, .int i_18])), (a_31, .inl (cy 1, 2100, .inl f_7))] [.ref a_0, .int i_0, .int i_1] (fun u : Unit => [(a_0, .inr (11, [.ref a_1, .ref a_2, .ref a_3, .ref a_4, .ref a_5, .ref a_6, .ref a_7, .ref a_8, .ref a_9, .ref a_10, .ref a_11])), (a_3, .inr (10, [.ref a_12, .ref a_13])), (a_12, .inr (0, [.int i_2, .int i_3, .int i_4, .int i_5, .int i_6, .int i_7, .int i_8, .int i_9, .ref a_14, .ref a_15, .ref a_16, .ref a_17, .ref a_18, .ref a_19, .ref a_20, .ref a_21, .ref a_22, .ref a_23])), (a_14, .inl (cy 1, 9, .inl f_0)), (a_15, .inl (cy 1, 9, .inl f_1)), (a_18, .inl (cy 1, 6, .inl f_2)), (a_19, .inl (cy 1, 48, .inl f_3)), (a_20, .inl (cy 1, 30, .inl f_4)), (a_13, .inl (cy 5, 3, .inr (.inr (.inr (.inr (va_up (va_up (va_up (fun _ => none) 0 (some a_24)) 1 (some a_25)) 2 (some a_26))))))), (a_24, .inr (1, [.ref a_27, .ref a_28, .int i_10, .int i_11, .int i_12])), (a_27, .inl (cy 1, 2100, .inl f_5)), (a_25, .inr (1, [.ref a_29, .ref a_30, .int i_13, .int i_14, .int i_15])), (a_29, .inl (cy 1, 2100, .inl f_6)), (a_26, .inr (1, [.ref a_31, .ref a_32, .int i_16, .int i_17, .int i_18])), (a_31, .inl (cy 1, 2100, .inl f_7))]) (fun (r : Int32) (u : Unit) => mm_rg r (-2) 2147483647) 0 0 := by
  refine mm_begin (lv := [(0, .ref a_0), (1, .int i_0), (2, .int i_1)]) (by decide) (Nat.le_of_ble_eq_true rfl) rfl ?_
  intro p e s m below meth c A ls R args Q H locs hRe hQ hAe hx hb hr hlocks hml hown hnm hts hsz hA hS hP hK hD hZ hl
  have hRf : R.frames = 5 := by rw [hRe]
  have hRl : R.locals = 134 := by rw [hRe]
  have hRc : R.cells = 0 := by rw [hRe]
  have hRs : R.slots = 0 := by rw [hRe]
  refine lv_aload_n hx hb dX11_run_0 rfl (lv_at hl 0 rfl) ?_
  refine lv_iload_n hx hb dX11_run_1 rfl (lv_at hl 1 rfl) ?_
  refine lv_iload_n hx hb dX11_run_2 rfl (lv_at hl 2 rfl) ?_
  refine mm_finir (va_runV (As := [.int i_0, .int i_1]) (rest := []) ⟨hx, hb, hml, hown, hts⟩ (K388_X11_isLandAndText l G cy H.size a_0 i_0 i_1 a_1 a_2 a_3 a_4 a_5 a_6 a_7 a_8 a_9 a_10 a_11 a_12 a_13 i_2 i_3 i_4 i_5 i_6 i_7 i_8 i_9 a_14 a_15 a_16 a_17 a_18 a_19 a_20 a_21 a_22 a_23 h2 h3) (cwV 2 hts (mm_gV mm_w955 mm_w956 mm_w957 mm_w2 mm_w958) rfl rfl rfl hd_X11_isLandAndText ⟨by rw [hRf]; exact Nat.le_of_ble_eq_true rfl, by rw [hRl]; exact Nat.le_of_ble_eq_true rfl⟩) (mm_preV hK hZ hS hA hP hD [0, 1, 2] rfl rfl 0 rfl rfl rfl) rfl rfl hl.1 rfl (lv_room (Nat.le_of_ble_eq_true rfl)) dX11_run_3 ⟨by rw [hRc]; exact Nat.le_of_ble_eq_true rfl, by rw [hRs]; exact Nat.le_of_ble_eq_true rfl⟩) hP hD hS hA [0, 1, 2] rfl (fun _ => rfl) ?_
  clear hP hD hS
  clear H locs
  intro v1 _u H locs hw hP hD hS
  rcases hw with rfl | ⟨rfl, w2, w3⟩
  · refine lv_if_ne (tgt := 12) hx hb dX11_run_6 (by decide) (fun c4 => ?_) (fun c4 => ?_)
    · have q5 := mm_neL (lo := 1) (mm_ne c4) mm_k0 mm_k0 (by decide) (by decide)
      exact mm_no q5 (by decide)
    · refine lv_bipush (v := (-2)) hx hb dX11_run_9 (by decide) ?_
      subst hAe
      rw [hQ]
      exact W.iret (v := (-2)) hx hb hr (fun t ht hW => ⟨⟨(-2), (), rfl, (mm_wk mm_km2 (by decide)), by rw [ht]; exact hP, hK.warm hW, hD⟩, hS.F ht⟩) hS.2.2 dX11_run_11
  · refine lv_if_ne (tgt := 12) hx hb dX11_run_6 (by decide) (fun c6 => ?_) (fun c6 => ?_)
    · refine lv_iconst (v := 0) hx hb dX11_run_12 (by decide) ?_
      refine lv_istore_n (lv' := [(3, .int 0), (0, .ref a_0), (1, .int i_0), (2, .int i_1)]) hx hb dX11_run_13 rfl hl (by decide) rfl ?_
      clear hl
      clear ls
      intro ls hl
      refine lv_iconst (v := 0) hx hb dX11_run_14 (by decide) ?_
      refine lv_istore (lv' := [(4, .int 0), (3, .int 0), (0, .ref a_0), (1, .int i_0), (2, .int i_1)]) hx hb dX11_run_15 hl (by decide) rfl ?_
      clear hl
      clear ls
      intro ls hl
      refine lv_aload_n hx hb dX11_run_17 rfl (lv_at hl 2 rfl) ?_
      refine va_get (D := G) (ci := 11) (v := .ref a_3) (C := RX11) (T := TX11) (N := 11) hx hb hts (mm_i inlX11) hown hK.1 hP 0 rfl rfl 2 (by decide) (mm_h hts mm_w24) (fun _ h9 => h9) rfl dX11_run_18 ?_
      refine lv_iload_n hx hb dX11_run_21 rfl (lv_at hl 3 rfl) ?_
      refine mm_finir (va_runV (As := [.int i_0]) (rest := []) ⟨hx, hb, hml, hown, hts⟩ (K360_X10_period l G cy H.size a_3 i_0 a_12 a_13 a_24 a_25 a_26 a_27 a_28 i_10 i_11 i_12 a_29 a_30 i_13 i_14 i_15 a_31 a_32 i_16 i_17 i_18 w2 h9 h11 h13) (cwV 1 hts (mm_gV mm_w743 mm_w744 mm_w745 mm_w23 mm_w746) rfl rfl rfl hd_X10_period ⟨by rw [hRf]; exact Nat.le_of_ble_eq_true rfl, by rw [hRl]; exact Nat.le_of_ble_eq_true rfl⟩) (mm_preV hK hZ hS hA hP hD [1, 8, 9, 11, 13] rfl rfl 1 rfl rfl rfl) rfl rfl hl.1 rfl (lv_room (Nat.le_of_ble_eq_true rfl)) dX11_run_22 ⟨by rw [hRc]; exact Nat.le_of_ble_eq_true rfl, by rw [hRs]; exact Nat.le_of_ble_eq_true rfl⟩) hP hD hS hA [1, 8, 9, 11, 13] rfl (fun _ => rfl) ?_
      clear hP hD hS
      clear H locs
      intro v7 _u H locs hw hP hD hS
      have w8 := hw
      refine lv_istore (lv' := [(5, .int v7), (4, .int 0), (3, .int 0), (0, .ref a_0), (1, .int i_0), (2, .int i_1)]) hx hb dX11_run_25 hl (by decide) rfl ?_
      clear hl
      clear ls
      intro ls hl
      refine lv_iconst (v := 0) hx hb dX11_run_27 (by decide) ?_
      refine lv_istore (lv' := [(6, .int 0), (5, .int v7), (4, .int 0), (3, .int 0), (0, .ref a_0), (1, .int i_0), (2, .int i_1)]) hx hb dX11_run_28 hl (by decide) rfl ?_
      clear hl
      clear ls
      intro ls hl
      have L30_297 : ∀ (n : Nat) (x30_6_295 : Int32) (x30_4_296 : Int32) (x30_3_297 : Int32), mm_rg x30_6_295 0 210 → mm_rg x30_3_297 0 2147483647 → (210 - x30_6_295.toInt).toNat < n → ∀ (H : Heap) (locs : List Loc), va_P G vwCl [(a_0, .inr (11, [.ref a_1, .ref a_2, .ref a_3, .ref a_4, .ref a_5, .ref a_6, .ref a_7, .ref a_8, .ref a_9, .ref a_10, .ref a_11])), (a_3, .inr (10, [.ref a_12, .ref a_13])), (a_12, .inr (0, [.int i_2, .int i_3, .int i_4, .int i_5, .int i_6, .int i_7, .int i_8, .int i_9, .ref a_14, .ref a_15, .ref a_16, .ref a_17, .ref a_18, .ref a_19, .ref a_20, .ref a_21, .ref a_22, .ref a_23])), (a_14, .inl (cy 1, 9, .inl f_0)), (a_15, .inl (cy 1, 9, .inl f_1)), (a_18, .inl (cy 1, 6, .inl f_2)), (a_19, .inl (cy 1, 48, .inl f_3)), (a_20, .inl (cy 1, 30, .inl f_4)), (a_13, .inl (cy 5, 3, .inr (.inr (.inr (.inr (va_up (va_up (va_up (fun _ => none) 0 (some a_24)) 1 (some a_25)) 2 (some a_26))))))), (a_24, .inr (1, [.ref a_27, .ref a_28, .int i_10, .int i_11, .int i_12])), (a_27, .inl (cy 1, 2100, .inl f_5)), (a_25, .inr (1, [.ref a_29, .ref a_30, .int i_13, .int i_14, .int i_15])), (a_29, .inl (cy 1, 2100, .inl f_6)), (a_26, .inr (1, [.ref a_31, .ref a_32, .int i_16, .int i_17, .int i_18])), (a_31, .inl (cy 1, 2100, .inl f_7))] H → va_D A [(a_0, .inr (11, [.ref a_1, .ref a_2, .ref a_3, .ref a_4, .ref a_5, .ref a_6, .ref a_7, .ref a_8, .ref a_9, .ref a_10, .ref a_11])), (a_3, .inr (10, [.ref a_12, .ref a_13])), (a_12, .inr (0, [.int i_2, .int i_3, .int i_4, .int i_5, .int i_6, .int i_7, .int i_8, .int i_9, .ref a_14, .ref a_15, .ref a_16, .ref a_17, .ref a_18, .ref a_19, .ref a_20, .ref a_21, .ref a_22, .ref a_23])), (a_14, .inl (cy 1, 9, .inl f_0)), (a_15, .inl (cy 1, 9, .inl f_1)), (a_18, .inl (cy 1, 6, .inl f_2)), (a_19, .inl (cy 1, 48, .inl f_3)), (a_20, .inl (cy 1, 30, .inl f_4)), (a_13, .inl (cy 5, 3, .inr (.inr (.inr (.inr (va_up (va_up (va_up (fun _ => none) 0 (some a_24)) 1 (some a_25)) 2 (some a_26))))))), (a_24, .inr (1, [.ref a_27, .ref a_28, .int i_10, .int i_11, .int i_12])), (a_27, .inl (cy 1, 2100, .inl f_5)), (a_25, .inr (1, [.ref a_29, .ref a_30, .int i_13, .int i_14, .int i_15])), (a_29, .inl (cy 1, 2100, .inl f_6)), (a_26, .inr (1, [.ref a_31, .ref a_32, .int i_16, .int i_17, .int i_18])), (a_31, .inl (cy 1, 2100, .inl f_7))] → va_S A s.heap H locs → ∀ (ls : Array Slot), lv_has ls 7 [(6, .int x30_6_295), (5, .int v7), (4, .int x30_4_296), (3, .int x30_3_297), (0, .ref a_0), (1, .int i_0), (2, .int i_1)] → W p l e R s m args below meth c H locs 0 0 Q (F0 m 30 ls []) := by
        intro n
        induction n with
        | zero => intro x30_6_295 x30_4_296 x30_3_297 rx30_6_295 rx30_3_297 hm; exact absurd hm (Nat.not_lt_zero _)
        | succ n ih30 =>
          intro x30_6_295 x30_4_296 x30_3_297 rx30_6_295 rx30_3_297 hm30 H locs hP hD hS ls hl
          refine lv_iload hx hb dX11_run_30 (lv_at hl 0 rfl) ?_
          refine lv_iload hx hb dX11_run_32 (lv_at hl 1 rfl) ?_
          refine lv_icmp_ge (tgt := 74) hx hb dX11_run_34 (by decide) (fun c299 => ?_) (fun c299 => ?_)
          · refine lv_iload_n hx hb dX11_run_74 rfl (lv_at hl 3 rfl) ?_
            subst hAe
            rw [hQ]
            exact W.iret (v := x30_3_297) hx hb hr (fun t ht hW => ⟨⟨x30_3_297, (), rfl, (mm_wk rx30_3_297 (by decide)), by rw [ht]; exact hP, hK.warm hW, hD⟩, hS.F ht⟩) hS.2.2 dX11_run_75
          · have q300 := mm_ltL (h := 209) (mm_nle c299) rx30_6_295 w8 (by decide)
            have q301 := mm_ltR (lo := 1) (mm_nle c299) rx30_6_295 w8 (by decide)
            refine lv_aload_n hx hb dX11_run_37 rfl (lv_at hl 4 rfl) ?_
            refine va_get (D := G) (ci := 11) (v := .ref a_3) (C := RX11) (T := TX11) (N := 11) hx hb hts (mm_i inlX11) hown hK.1 hP 0 rfl rfl 2 (by decide) (mm_h hts mm_w24) (fun _ h9 => h9) rfl dX11_run_38 ?_
            refine lv_iload_n hx hb dX11_run_41 rfl (lv_at hl 5 rfl) ?_
            refine lv_iload hx hb dX11_run_42 (lv_at hl 0 rfl) ?_
            refine lv_iload_n hx hb dX11_run_44 rfl (lv_at hl 6 rfl) ?_
            refine mm_finir (va_runV (As := [.int i_0, .int x30_6_295, .int i_1]) (rest := []) ⟨hx, hb, hml, hown, hts⟩ (K411_X10_gains l G cy H.size a_3 i_0 x30_6_295 i_1 a_12 a_13 i_2 i_3 i_4 i_5 i_6 i_7 i_8 i_9 a_14 a_15 a_16 a_17 a_18 a_19 a_20 a_21 a_22 a_23 f_0 f_1 f_2 f_3 f_4 a_24 a_25 a_26 a_27 a_28 i_10 i_11 i_12 f_5 a_29 a_30 i_13 i_14 i_15 f_6 a_31 a_32 i_16 i_17 i_18 f_7 w2 (mm_wk q300 (by decide)) w3 h0 h1 h4 h5 h6 h7 h8 h9 h10 h11 h12 h13 h14) (cwV 3 hts (mm_gV mm_w1021 mm_w1022 mm_w1023 mm_w23 mm_w1024) rfl rfl rfl hd_X10_gains ⟨by rw [hRf]; exact Nat.le_of_ble_eq_true rfl, by rw [hRl]; exact Nat.le_of_ble_eq_true rfl⟩) (mm_preV hK hZ hS hA hP hD [1, 2, 3, 4, 5, 6, 7, 8, 9, 10, 11, 12, 13, 14] rfl rfl 1 rfl rfl rfl) rfl rfl hl.1 rfl (lv_room (Nat.le_of_ble_eq_true rfl)) dX11_run_45 ⟨by rw [hRc]; exact Nat.le_of_ble_eq_true rfl, by rw [hRs]; exact Nat.le_of_ble_eq_true rfl⟩) hP hD hS hA [1, 2, 3, 4, 5, 6, 7, 8, 9, 10, 11, 12, 13, 14] rfl (fun _ => rfl) ?_
            clear hP hD hS
            clear H locs
            intro v302 _u H locs hw hP hD hS
            rcases hw with rfl | rfl
            · refine lv_if_eq (tgt := 58) hx hb dX11_run_48 (by decide) (fun c303 => ?_) (fun c303 => ?_)
              · refine lv_iconst (v := 0) hx hb dX11_run_58 (by decide) ?_
                refine lv_istore (lv' := [(4, .int 0), (6, .int x30_6_295), (5, .int v7), (3, .int x30_3_297), (0, .ref a_0), (1, .int i_0), (2, .int i_1)]) hx hb dX11_run_59 hl (by decide) rfl ?_
                clear hl
                clear ls
                intro ls hl
                refine lv_iload_n hx hb dX11_run_61 rfl (lv_at hl 3 rfl) ?_
                refine lv_iload hx hb dX11_run_62 (lv_at hl 0 rfl) ?_
                refine va_mmax hx hb (by rw [hml]; exact hl.1.symm) hown (mm_h hts mm_w1020) (mm_h hts mm_w345) (mm_h hts mm_w346) (mm_h hts mm_w347) (by rw [hRf]; exact Nat.le_of_ble_eq_true rfl) (by rw [hRl]; exact Nat.le_of_ble_eq_true rfl) (by rw [hRc]; exact Nat.le_of_ble_eq_true rfl) (by rw [hRs]; exact Nat.le_of_ble_eq_true rfl) dX11_run_64 ?_
                refine lv_topi (fun v304 ev304 => ?_)
                have rv304 : mm_rg v304 0 2147483647 := mm_max ev304 rx30_3_297 mm_k0 (by decide)
                refine lv_istore_n (lv' := [(3, .int v304), (4, .int 0), (6, .int x30_6_295), (5, .int v7), (0, .ref a_0), (1, .int i_0), (2, .int i_1)]) hx hb dX11_run_67 rfl hl (by decide) rfl ?_
                clear hl
                clear ls
                intro ls hl
                obtain ⟨v305, ev305⟩ : ∃ y : Int32, y = x30_6_295 + 1 := ⟨_, rfl⟩
                refine lv_iinc (v := v305) (lv' := [(6, .int v305), (3, .int v304), (4, .int 0), (5, .int v7), (0, .ref a_0), (1, .int i_0), (2, .int i_1)]) hx hb dX11_run_68 hl (k := 2) rfl (by rw [ev305]; rfl) (by decide) rfl ?_
                clear hl
                clear ls
                intro ls hl
                have rv305 : mm_rg v305 1 210 := mm_add ev305 q300 mm_k1 (by decide) (by decide)
                have tv305 := mm_addEc ev305 q300 mm_k1 (by decide) (k := 1) (by decide)
                refine lv_goto (tgt := 30) hx hb dX11_run_71 (by decide) ?_
                exact ih30 v305 0 v304 (mm_wk rv305 (by decide)) rv304 (mm_mu hm30 tv305 (by decide) (rv305).2 (by decide)) H locs hP hD hS ls (lv_sub hl [0, 3, 2, 1, 4, 5, 6] rfl)
              · have q306 := mm_neL (lo := 1) (mm_ne c303) mm_k0 mm_k0 (by decide) (by decide)
                exact mm_no q306 (by decide)
            · refine lv_if_eq (tgt := 58) hx hb dX11_run_48 (by decide) (fun c307 => ?_) (fun c307 => ?_)
              · exact mm_eqN c307.symm mm_k0 mm_k1 (by decide)
              · refine lv_iload hx hb dX11_run_51 (lv_at hl 2 rfl) ?_
                refine lv_iconst (v := 1) hx hb dX11_run_53 (by decide) ?_
                refine lv_iadd hx hb dX11_run_54 ?_
                refine lv_topi (fun v308 ev308 => ?_)
                refine lv_goto (tgt := 59) hx hb dX11_run_55 (by decide) ?_
                refine lv_istore (lv' := [(4, .int v308), (6, .int x30_6_295), (5, .int v7), (3, .int x30_3_297), (0, .ref a_0), (1, .int i_0), (2, .int i_1)]) hx hb dX11_run_59 hl (by decide) rfl ?_
                clear hl
                clear ls
                intro ls hl
                refine lv_iload_n hx hb dX11_run_61 rfl (lv_at hl 3 rfl) ?_
                refine lv_iload hx hb dX11_run_62 (lv_at hl 0 rfl) ?_
                refine va_mmax hx hb (by rw [hml]; exact hl.1.symm) hown (mm_h hts mm_w1020) (mm_h hts mm_w345) (mm_h hts mm_w346) (mm_h hts mm_w347) (by rw [hRf]; exact Nat.le_of_ble_eq_true rfl) (by rw [hRl]; exact Nat.le_of_ble_eq_true rfl) (by rw [hRc]; exact Nat.le_of_ble_eq_true rfl) (by rw [hRs]; exact Nat.le_of_ble_eq_true rfl) dX11_run_64 ?_
                refine lv_topi (fun v309 ev309 => ?_)
                have rv309 : mm_rg v309 0 2147483647 := mm_max ev309 rx30_3_297 (mm_top v308) (by decide)
                refine lv_istore_n (lv' := [(3, .int v309), (4, .int v308), (6, .int x30_6_295), (5, .int v7), (0, .ref a_0), (1, .int i_0), (2, .int i_1)]) hx hb dX11_run_67 rfl hl (by decide) rfl ?_
                clear hl
                clear ls
                intro ls hl
                obtain ⟨v310, ev310⟩ : ∃ y : Int32, y = x30_6_295 + 1 := ⟨_, rfl⟩
                refine lv_iinc (v := v310) (lv' := [(6, .int v310), (3, .int v309), (4, .int v308), (5, .int v7), (0, .ref a_0), (1, .int i_0), (2, .int i_1)]) hx hb dX11_run_68 hl (k := 2) rfl (by rw [ev310]; rfl) (by decide) rfl ?_
                clear hl
                clear ls
                intro ls hl
                have rv310 : mm_rg v310 1 210 := mm_add ev310 q300 mm_k1 (by decide) (by decide)
                have tv310 := mm_addEc ev310 q300 mm_k1 (by decide) (k := 1) (by decide)
                refine lv_goto (tgt := 30) hx hb dX11_run_71 (by decide) ?_
                exact ih30 v310 v308 v309 (mm_wk rv310 (by decide)) rv309 (mm_mu hm30 tv310 (by decide) (rv310).2 (by decide)) H locs hP hD hS ls (lv_sub hl [0, 3, 2, 1, 4, 5, 6] rfl)
      exact L30_297 _ 0 0 0 (mm_wk mm_k0 (by decide)) (mm_wk mm_k0 (by decide)) (Nat.lt_succ_self _) H locs hP hD hS ls (lv_sub hl [0, 1, 2, 3, 4, 5, 6] rfl)
    · exact mm_eqN c6.symm mm_k0 mm_k1 (by decide)

set_option maxHeartbeats 4000000 in
set_option maxRecDepth 100000 in
theorem K413_X11_inLowestTerms (l : Launch) (G : va_G) (cy : Nat → ClassId) (sz : Nat) (j_0 : Int64) (j_1 : Int64) (i_0 : Int32) (h0 : mm_rg i_0 0 1)  : mm_CL l yX11_inLowestTerms (mm_ws yX11_inLowestTerms cX11_inLowestTerms 7 (some .long)) ({ frames := 1, cells := 0, slots := 0, locals := 30 } : Room) G cy sz [] [.long j_0, .long j_1, .int i_0] (fun u : Unit => []) (fun (r : Int64) (u : Unit) => True) 0 0 := by
  refine mm_begin (lv := [(0, .long j_0), (2, .long j_1), (4, .int i_0)]) (by decide) (Nat.le_of_ble_eq_true rfl) rfl ?_
  intro p e s m below meth c A ls R args Q H locs hRe hQ hAe hx hb hr hlocks hml hown hnm hts hsz hA hS hP hK hD hZ hl
  have hRf : R.frames = 1 := by rw [hRe]
  have hRl : R.locals = 30 := by rw [hRe]
  have hRc : R.cells = 0 := by rw [hRe]
  have hRs : R.slots = 0 := by rw [hRe]
  refine lv_lload_n hx hb dX11_inLowestTerms_0 rfl (lv_at hl 0 rfl) ?_
  refine lv_lload_n hx hb dX11_inLowestTerms_1 rfl (lv_at hl 1 rfl) ?_
  refine mm_finlr (va_runS (As := [.long j_0, .long j_1]) (rest := []) ⟨hx, hb, hml, hown, hts⟩ (K334_X11_greatestDivisor l G cy H.size j_0 j_1 ) (va_cwS 2 hts (mm_gS mm_w413 mm_w414 mm_w2 mm_w415) rfl rfl rfl hs_X11_greatestDivisor ⟨by rw [hRf]; exact Nat.le_of_ble_eq_true rfl, by rw [hRl]; exact Nat.le_of_ble_eq_true rfl⟩) (mm_preS hK hZ hS hA hP hD [] rfl rfl) rfl rfl hl.1 rfl (lv_room (Nat.le_of_ble_eq_true rfl)) dX11_inLowestTerms_2 ⟨by rw [hRc]; exact Nat.le_of_ble_eq_true rfl, by rw [hRs]; exact Nat.le_of_ble_eq_true rfl⟩) hP hD hS hA [] rfl (fun _ => rfl) ?_
  clear hP hD hS
  clear H locs
  intro v1 _u H locs hw hP hD hS
  refine lv_lstore (lv' := [(5, .long v1), (0, .long j_0), (2, .long j_1), (4, .int i_0)]) hx hb dX11_inLowestTerms_5 hl (by decide) rfl ?_
  clear hl
  clear ls
  intro ls hl
  refine lv_lload hx hb dX11_inLowestTerms_7 (lv_at hl 0 rfl) ?_
  refine lv_lconst (v := 0) hx hb dX11_inLowestTerms_9 (by decide) ?_
  refine W.lcmp hx hb dX11_inLowestTerms_10 ?_
  refine lv_topi (fun v2 ev2 => ?_)
  refine lv_if_ne (tgt := 16) hx hb dX11_inLowestTerms_11 (by decide) (fun c3 => ?_) (fun c3 => ?_)
  · refine lv_iload hx hb dX11_inLowestTerms_16 (lv_at hl 3 rfl) ?_
    refine lv_if_ne (tgt := 25) hx hb dX11_inLowestTerms_18 (by decide) (fun c4 => ?_) (fun c4 => ?_)
    · have q5 := mm_neL (lo := 1) (mm_ne c4) h0 mm_k0 (by decide) (by decide)
      refine lv_lload_n hx hb dX11_inLowestTerms_25 rfl (lv_at hl 2 rfl) ?_
      refine lv_lload hx hb dX11_inLowestTerms_26 (lv_at hl 0 rfl) ?_
      refine lv_ldiv hx hb dX11_inLowestTerms_28 (fun q => (mm_cmp_ne ev2 c3) (by rw [q])) ?_
      refine lv_topl (fun v6 ev6 => ?_)
      subst hAe
      rw [hQ]
      exact W.lret (v := v6) hx hb hr (fun t ht hW => ⟨⟨v6, (), rfl, trivial, by rw [ht]; exact hP, hK.warm hW, hD⟩, hS.F ht⟩) hS.2.2 dX11_inLowestTerms_29
    · have q7 := mm_eqI (lo := 0) (hi := 0) c4 h0 mm_k0 (by decide)
      refine lv_lload_n hx hb dX11_inLowestTerms_21 rfl (lv_at hl 1 rfl) ?_
      refine lv_goto (tgt := 26) hx hb dX11_inLowestTerms_22 (by decide) ?_
      refine lv_lload hx hb dX11_inLowestTerms_26 (lv_at hl 0 rfl) ?_
      refine lv_ldiv hx hb dX11_inLowestTerms_28 (fun q => (mm_cmp_ne ev2 c3) (by rw [q])) ?_
      refine lv_topl (fun v8 ev8 => ?_)
      subst hAe
      rw [hQ]
      exact W.lret (v := v8) hx hb hr (fun t ht hW => ⟨⟨v8, (), rfl, trivial, by rw [ht]; exact hP, hK.warm hW, hD⟩, hS.F ht⟩) hS.2.2 dX11_inLowestTerms_29
  · have q9 := mm_eqIl (lo := 0) (hi := 0) (mm_cmp_eq ev2 c3) (mm_topl v1) mm_kl0 (by decide)
    refine lv_lconst (v := 0) hx hb dX11_inLowestTerms_14 (by decide) ?_
    subst hAe
    rw [hQ]
    exact W.lret (v := 0) hx hb hr (fun t ht hW => ⟨⟨0, (), rfl, trivial, by rw [ht]; exact hP, hK.warm hW, hD⟩, hS.F ht⟩) hS.2.2 dX11_inLowestTerms_15

set_option maxHeartbeats 4000000 in
set_option maxRecDepth 100000 in
theorem K414_X11_average (l : Launch) (G : va_G) (cy : Nat → ClassId) (sz : Nat) (a_0 : Nat) (i_0 : Int32) (i_1 : Int32) (i_2 : Int32) (a_1 : Nat) (a_2 : Nat) (a_3 : Nat) (a_4 : Nat) (a_5 : Nat) (a_6 : Nat) (a_7 : Nat) (a_8 : Nat) (a_9 : Nat) (a_10 : Nat) (a_11 : Nat) (a_12 : Nat) (a_13 : Nat) (i_3 : Int32) (i_4 : Int32) (i_5 : Int32) (i_6 : Int32) (i_7 : Int32) (i_8 : Int32) (i_9 : Int32) (i_10 : Int32) (a_14 : Nat) (a_15 : Nat) (a_16 : Nat) (a_17 : Nat) (a_18 : Nat) (a_19 : Nat) (a_20 : Nat) (a_21 : Nat) (a_22 : Nat) (a_23 : Nat) (f_0 : Nat → Int32) (f_1 : Nat → Int32) (f_2 : Nat → Int32) (f_3 : Nat → Int32) (f_4 : Nat → Int32) (a_24 : Nat) (a_25 : Nat) (a_26 : Nat) (a_27 : Nat) (a_28 : Nat) (i_11 : Int32) (i_12 : Int32) (i_13 : Int32) (f_5 : Nat → Int32) (a_29 : Nat) (a_30 : Nat) (i_14 : Int32) (i_15 : Int32) (i_16 : Int32) (f_6 : Nat → Int32) (a_31 : Nat) (a_32 : Nat) (i_17 : Int32) (i_18 : Int32) (i_19 : Int32) (f_7 : Nat → Int32) (h0 : mm_rg i_6 0 99) (h1 : mm_rg i_7 0 9) (h2 : mm_rg i_8 0 3) (h3 : mm_rg i_9 0 6) (h4 : mm_ar f_0 (-1) 4) (h5 : mm_ar f_1 0 99) (h6 : mm_ar f_2 0 8) (h7 : mm_ar f_3 0 9) (h8 : mm_ar f_4 0 9) (h9 : mm_rg i_13 (-2147483648) 210) (h10 : mm_ar f_5 0 9) (h11 : mm_rg i_16 (-2147483648) 210) (h12 : mm_ar f_6 0 9) (h13 : mm_rg i_19 (-2147483648) 210) (h14 : mm_ar f_7 0 9)  : mm_CI l yX11_average (mm_ws yX11_average cX11_average 8 (some .int)) ({ frames := 4, cells := 0, slots := 0, locals := 111 } : Room) G cy sz [(a_0, .inr (11, [.ref a_1, .ref a_2, .ref a_3, .ref a_4, .ref a_5, .ref a_6, .ref a_7, .ref a_8, .ref a_9, .ref a_10, .ref a_11])), (a_3, .inr (10, [.ref a_12, .ref a_13])), (a_12, .inr (0, [.int i_3, .int i_4, .int i_5, .int i_6, .int i_7, .int i_8, .int i_9, .int i_10, .ref a_14, .ref a_15, .ref a_16, .ref a_17, .ref a_18, .ref a_19, .ref a_20, .ref a_21, .ref a_22, .ref a_23])), (a_14, .inl (cy 1, 9, .inl f_0)), (a_15, .inl (cy 1, 9, .inl f_1)), (a_18, .inl (cy 1, 6, .inl f_2)), (a_19, .inl (cy 1, 48, .inl f_3)), (a_20, .inl (cy 1, 30, .inl f_4)), (a_13, .inl (cy 5, 3, .inr (.inr (.inr (.inr (va_up (va_up (va_up (fun _ => none) 0 (some a_24)) 1 (some a_25)) 2 (some a_26))))))), (a_24, .inr (1, [.ref a_27, .ref a_28, .int i_11, .int i_12, .int i_13])), (a_27, .inl (cy 1, 2100, .inl f_5)), (a_25, .inr (1, [.ref a_29, .ref a_30, .int i_14, .int i_15, .int i_16])), (a_29, .inl (cy 1, 2100, .inl f_6)), (a_26, .inr (1, [.ref a_31, .ref a_32, .int i_17, .int i_18, .int i_19])), (a_31, .inl (cy 1, 2100, .inl f_7))] [.ref a_0, .int i_0, .int i_1, .int i_2] (fun u : Unit => [(a_0, .inr (11, [.ref a_1, .ref a_2, .ref a_3, .ref a_4, .ref a_5, .ref a_6, .ref a_7, .ref a_8, .ref a_9, .ref a_10, .ref a_11])), (a_3, .inr (10, [.ref a_12, .ref a_13])), (a_12, .inr (0, [.int i_3, .int i_4, .int i_5, .int i_6, .int i_7, .int i_8, .int i_9, .int i_10, .ref a_14, .ref a_15, .ref a_16, .ref a_17, .ref a_18, .ref a_19, .ref a_20, .ref a_21, .ref a_22, .ref a_23])), (a_14, .inl (cy 1, 9, .inl f_0)), (a_15, .inl (cy 1, 9, .inl f_1)), (a_18, .inl (cy 1, 6, .inl f_2)), (a_19, .inl (cy 1, 48, .inl f_3)), (a_20, .inl (cy 1, 30, .inl f_4)), (a_13, .inl (cy 5, 3, .inr (.inr (.inr (.inr (va_up (va_up (va_up (fun _ => none) 0 (some a_24)) 1 (some a_25)) 2 (some a_26))))))), (a_24, .inr (1, [.ref a_27, .ref a_28, .int i_11, .int i_12, .int i_13])), (a_27, .inl (cy 1, 2100, .inl f_5)), (a_25, .inr (1, [.ref a_29, .ref a_30, .int i_14, .int i_15, .int i_16])), (a_29, .inl (cy 1, 2100, .inl f_6)), (a_26, .inr (1, [.ref a_31, .ref a_32, .int i_17, .int i_18, .int i_19])), (a_31, .inl (cy 1, 2100, .inl f_7))]) (fun (r : Int32) (u : Unit) => True) 0 0 := by
  refine mm_begin (lv := [(0, .ref a_0), (1, .int i_0), (2, .int i_1), (3, .int i_2)]) (by decide) (Nat.le_of_ble_eq_true rfl) rfl ?_
  intro p e s m below meth c A ls R args Q H locs hRe hQ hAe hx hb hr hlocks hml hown hnm hts hsz hA hS hP hK hD hZ hl
  have hRf : R.frames = 4 := by rw [hRe]
  have hRl : R.locals = 111 := by rw [hRe]
  have hRc : R.cells = 0 := by rw [hRe]
  have hRs : R.slots = 0 := by rw [hRe]
  refine lv_aload_n hx hb dX11_average_0 rfl (lv_at hl 0 rfl) ?_
  refine lv_iload_n hx hb dX11_average_1 rfl (lv_at hl 1 rfl) ?_
  refine lv_iload_n hx hb dX11_average_2 rfl (lv_at hl 2 rfl) ?_
  refine mm_finir (va_runV (As := [.int i_0, .int i_1]) (rest := []) ⟨hx, hb, hml, hown, hts⟩ (K388_X11_isLandAndText l G cy H.size a_0 i_0 i_1 a_1 a_2 a_3 a_4 a_5 a_6 a_7 a_8 a_9 a_10 a_11 a_12 a_13 i_3 i_4 i_5 i_6 i_7 i_8 i_9 i_10 a_14 a_15 a_16 a_17 a_18 a_19 a_20 a_21 a_22 a_23 h2 h3) (cwV 2 hts (mm_gV mm_w955 mm_w956 mm_w957 mm_w2 mm_w958) rfl rfl rfl hd_X11_isLandAndText ⟨by rw [hRf]; exact Nat.le_of_ble_eq_true rfl, by rw [hRl]; exact Nat.le_of_ble_eq_true rfl⟩) (mm_preV hK hZ hS hA hP hD [0, 1, 2] rfl rfl 0 rfl rfl rfl) rfl rfl hl.1 rfl (lv_room (Nat.le_of_ble_eq_true rfl)) dX11_average_3 ⟨by rw [hRc]; exact Nat.le_of_ble_eq_true rfl, by rw [hRs]; exact Nat.le_of_ble_eq_true rfl⟩) hP hD hS hA [0, 1, 2] rfl (fun _ => rfl) ?_
  clear hP hD hS
  clear H locs
  intro v1 _u H locs hw hP hD hS
  rcases hw with rfl | ⟨rfl, w2, w3⟩
  · refine lv_if_eq (tgt := 16) hx hb dX11_average_6 (by decide) (fun c4 => ?_) (fun c4 => ?_)
    · refine lv_bipush (v := (-2)) hx hb dX11_average_16 (by decide) ?_
      subst hAe
      rw [hQ]
      exact W.iret (v := (-2)) hx hb hr (fun t ht hW => ⟨⟨(-2), (), rfl, trivial, by rw [ht]; exact hP, hK.warm hW, hD⟩, hS.F ht⟩) hS.2.2 dX11_average_18
    · have q5 := mm_neL (lo := 1) (mm_ne c4) mm_k0 mm_k0 (by decide) (by decide)
      exact mm_no q5 (by decide)
  · refine lv_if_eq (tgt := 16) hx hb dX11_average_6 (by decide) (fun c6 => ?_) (fun c6 => ?_)
    · exact mm_eqN c6.symm mm_k0 mm_k1 (by decide)
    · refine lv_iload_n hx hb dX11_average_9 rfl (lv_at hl 3 rfl) ?_
      refine mm_finir (va_runS (As := [.int i_2]) (rest := []) ⟨hx, hb, hml, hown, hts⟩ (K345_X11_isPart l G cy H.size i_2 ) (va_cwS 1 hts (mm_gS mm_w581 mm_w582 mm_w2 mm_w583) rfl rfl rfl hs_X11_isPart ⟨by rw [hRf]; exact Nat.le_of_ble_eq_true rfl, by rw [hRl]; exact Nat.le_of_ble_eq_true rfl⟩) (mm_preS hK hZ hS hA hP hD [] rfl rfl) rfl rfl hl.1 rfl (lv_room (Nat.le_of_ble_eq_true rfl)) dX11_average_10 ⟨by rw [hRc]; exact Nat.le_of_ble_eq_true rfl, by rw [hRs]; exact Nat.le_of_ble_eq_true rfl⟩) hP hD hS hA [] rfl (fun _ => rfl) ?_
      clear hP hD hS
      clear H locs
      intro v7 _u H locs hw hP hD hS
      rcases hw with rfl | ⟨rfl, w8⟩
      · refine lv_if_ne (tgt := 19) hx hb dX11_average_13 (by decide) (fun c9 => ?_) (fun c9 => ?_)
        · have q10 := mm_neL (lo := 1) (mm_ne c9) mm_k0 mm_k0 (by decide) (by decide)
          exact mm_no q10 (by decide)
        · refine lv_bipush (v := (-2)) hx hb dX11_average_16 (by decide) ?_
          subst hAe
          rw [hQ]
          exact W.iret (v := (-2)) hx hb hr (fun t ht hW => ⟨⟨(-2), (), rfl, trivial, by rw [ht]; exact hP, hK.warm hW, hD⟩, hS.F ht⟩) hS.2.2 dX11_average_18
      · refine lv_if_ne (tgt := 19) hx hb dX11_average_13 (by decide) (fun c11 => ?_) (fun c11 => ?_)
        · refine lv_lconst (v := 0) hx hb dX11_average_19 (by decide) ?_
          refine lv_lstore (lv' := [(4, .long 0), (0, .ref a_0), (1, .int i_0), (2, .int i_1), (3, .int i_2)]) hx hb dX11_average_20 hl (by decide) rfl ?_
          clear hl
          clear ls
          intro ls hl
          refine lv_aload_n hx hb dX11_average_22 rfl (lv_at hl 1 rfl) ?_
          refine va_get (D := G) (ci := 11) (v := .ref a_3) (C := RX11) (T := TX11) (N := 11) hx hb hts (mm_i inlX11) hown hK.1 hP 0 rfl rfl 2 (by decide) (mm_h hts mm_w24) (fun _ h9 => h9) rfl dX11_average_23 ?_
          refine lv_iload_n hx hb dX11_average_26 rfl (lv_at hl 2 rfl) ?_
          refine mm_finir (va_runV (As := [.int i_0]) (rest := []) ⟨hx, hb, hml, hown, hts⟩ (K360_X10_period l G cy H.size a_3 i_0 a_12 a_13 a_24 a_25 a_26 a_27 a_28 i_11 i_12 i_13 a_29 a_30 i_14 i_15 i_16 a_31 a_32 i_17 i_18 i_19 w2 h9 h11 h13) (cwV 1 hts (mm_gV mm_w743 mm_w744 mm_w745 mm_w23 mm_w746) rfl rfl rfl hd_X10_period ⟨by rw [hRf]; exact Nat.le_of_ble_eq_true rfl, by rw [hRl]; exact Nat.le_of_ble_eq_true rfl⟩) (mm_preV hK hZ hS hA hP hD [1, 8, 9, 11, 13] rfl rfl 1 rfl rfl rfl) rfl rfl hl.1 rfl (lv_room (Nat.le_of_ble_eq_true rfl)) dX11_average_27 ⟨by rw [hRc]; exact Nat.le_of_ble_eq_true rfl, by rw [hRs]; exact Nat.le_of_ble_eq_true rfl⟩) hP hD hS hA [1, 8, 9, 11, 13] rfl (fun _ => rfl) ?_
          clear hP hD hS
          clear H locs
          intro v12 _u H locs hw hP hD hS
          have w13 := hw
          refine lv_istore (lv' := [(6, .int v12), (4, .long 0), (0, .ref a_0), (1, .int i_0), (2, .int i_1), (3, .int i_2)]) hx hb dX11_average_30 hl (by decide) rfl ?_
          clear hl
          clear ls
          intro ls hl
          refine lv_iconst (v := 0) hx hb dX11_average_32 (by decide) ?_
          refine lv_istore (lv' := [(7, .int 0), (6, .int v12), (4, .long 0), (0, .ref a_0), (1, .int i_0), (2, .int i_1), (3, .int i_2)]) hx hb dX11_average_33 hl (by decide) rfl ?_
          clear hl
          clear ls
          intro ls hl
          have L35_174 : ∀ (n : Nat) (x35_7_173 : Int32) (x35_4_174 : Int64), mm_rg x35_7_173 0 210 → (210 - x35_7_173.toInt).toNat < n → ∀ (H : Heap) (locs : List Loc), va_P G vwCl [(a_0, .inr (11, [.ref a_1, .ref a_2, .ref a_3, .ref a_4, .ref a_5, .ref a_6, .ref a_7, .ref a_8, .ref a_9, .ref a_10, .ref a_11])), (a_3, .inr (10, [.ref a_12, .ref a_13])), (a_12, .inr (0, [.int i_3, .int i_4, .int i_5, .int i_6, .int i_7, .int i_8, .int i_9, .int i_10, .ref a_14, .ref a_15, .ref a_16, .ref a_17, .ref a_18, .ref a_19, .ref a_20, .ref a_21, .ref a_22, .ref a_23])), (a_14, .inl (cy 1, 9, .inl f_0)), (a_15, .inl (cy 1, 9, .inl f_1)), (a_18, .inl (cy 1, 6, .inl f_2)), (a_19, .inl (cy 1, 48, .inl f_3)), (a_20, .inl (cy 1, 30, .inl f_4)), (a_13, .inl (cy 5, 3, .inr (.inr (.inr (.inr (va_up (va_up (va_up (fun _ => none) 0 (some a_24)) 1 (some a_25)) 2 (some a_26))))))), (a_24, .inr (1, [.ref a_27, .ref a_28, .int i_11, .int i_12, .int i_13])), (a_27, .inl (cy 1, 2100, .inl f_5)), (a_25, .inr (1, [.ref a_29, .ref a_30, .int i_14, .int i_15, .int i_16])), (a_29, .inl (cy 1, 2100, .inl f_6)), (a_26, .inr (1, [.ref a_31, .ref a_32, .int i_17, .int i_18, .int i_19])), (a_31, .inl (cy 1, 2100, .inl f_7))] H → va_D A [(a_0, .inr (11, [.ref a_1, .ref a_2, .ref a_3, .ref a_4, .ref a_5, .ref a_6, .ref a_7, .ref a_8, .ref a_9, .ref a_10, .ref a_11])), (a_3, .inr (10, [.ref a_12, .ref a_13])), (a_12, .inr (0, [.int i_3, .int i_4, .int i_5, .int i_6, .int i_7, .int i_8, .int i_9, .int i_10, .ref a_14, .ref a_15, .ref a_16, .ref a_17, .ref a_18, .ref a_19, .ref a_20, .ref a_21, .ref a_22, .ref a_23])), (a_14, .inl (cy 1, 9, .inl f_0)), (a_15, .inl (cy 1, 9, .inl f_1)), (a_18, .inl (cy 1, 6, .inl f_2)), (a_19, .inl (cy 1, 48, .inl f_3)), (a_20, .inl (cy 1, 30, .inl f_4)), (a_13, .inl (cy 5, 3, .inr (.inr (.inr (.inr (va_up (va_up (va_up (fun _ => none) 0 (some a_24)) 1 (some a_25)) 2 (some a_26))))))), (a_24, .inr (1, [.ref a_27, .ref a_28, .int i_11, .int i_12, .int i_13])), (a_27, .inl (cy 1, 2100, .inl f_5)), (a_25, .inr (1, [.ref a_29, .ref a_30, .int i_14, .int i_15, .int i_16])), (a_29, .inl (cy 1, 2100, .inl f_6)), (a_26, .inr (1, [.ref a_31, .ref a_32, .int i_17, .int i_18, .int i_19])), (a_31, .inl (cy 1, 2100, .inl f_7))] → va_S A s.heap H locs → ∀ (ls : Array Slot), lv_has ls 8 [(7, .int x35_7_173), (6, .int v12), (4, .long x35_4_174), (0, .ref a_0), (1, .int i_0), (2, .int i_1), (3, .int i_2)] → W p l e R s m args below meth c H locs 0 0 Q (F0 m 35 ls []) := by
            intro n
            induction n with
            | zero => intro x35_7_173 x35_4_174 rx35_7_173 hm; exact absurd hm (Nat.not_lt_zero _)
            | succ n ih35 =>
              intro x35_7_173 x35_4_174 rx35_7_173 hm35 H locs hP hD hS ls hl
              refine lv_iload hx hb dX11_average_35 (lv_at hl 0 rfl) ?_
              refine lv_iload hx hb dX11_average_37 (lv_at hl 1 rfl) ?_
              refine lv_icmp_ge (tgt := 65) hx hb dX11_average_39 (by decide) (fun c176 => ?_) (fun c176 => ?_)
              · refine lv_lload hx hb dX11_average_65 (lv_at hl 2 rfl) ?_
                refine lv_iload hx hb dX11_average_67 (lv_at hl 1 rfl) ?_
                obtain ⟨v177, ev177⟩ : ∃ y : Int64, y = v12.toInt64 := ⟨_, rfl⟩
                refine lv_i2l hx hb dX11_average_69 ev177.symm ?_
                have rv177 : mm_rl v177 (-2147483648) 210 := mm_i2l ev177 w13
                refine lv_iload_n hx hb dX11_average_70 rfl (lv_at hl 6 rfl) ?_
                refine mm_finlr (va_runS (As := [.long x35_4_174, .long v177, .int i_2]) (rest := []) ⟨hx, hb, hml, hown, hts⟩ (K413_X11_inLowestTerms l G cy H.size x35_4_174 v177 i_2 w8) (va_cwS 3 hts (mm_gS mm_w1033 mm_w1034 mm_w2 mm_w1035) rfl rfl rfl hs_X11_inLowestTerms ⟨by rw [hRf]; exact Nat.le_of_ble_eq_true rfl, by rw [hRl]; exact Nat.le_of_ble_eq_true rfl⟩) (mm_preS hK hZ hS hA hP hD [] rfl rfl) rfl rfl hl.1 rfl (lv_room (Nat.le_of_ble_eq_true rfl)) dX11_average_71 ⟨by rw [hRc]; exact Nat.le_of_ble_eq_true rfl, by rw [hRs]; exact Nat.le_of_ble_eq_true rfl⟩) hP hD hS hA [] rfl (fun _ => rfl) ?_
                clear hP hD hS
                clear H locs
                intro v178 _u H locs hw hP hD hS
                obtain ⟨v179, ev179⟩ : ∃ y : Int32, y = v178.toInt32 := ⟨_, rfl⟩
                refine lv_l2i hx hb dX11_average_74 ev179.symm ?_
                subst hAe
                rw [hQ]
                exact W.iret (v := v179) hx hb hr (fun t ht hW => ⟨⟨v179, (), rfl, trivial, by rw [ht]; exact hP, hK.warm hW, hD⟩, hS.F ht⟩) hS.2.2 dX11_average_75
              · have q180 := mm_ltL (h := 209) (mm_nle c176) rx35_7_173 w13 (by decide)
                have q181 := mm_ltR (lo := 1) (mm_nle c176) rx35_7_173 w13 (by decide)
                refine lv_lload hx hb dX11_average_42 (lv_at hl 2 rfl) ?_
                refine lv_aload_n hx hb dX11_average_44 rfl (lv_at hl 3 rfl) ?_
                refine va_get (D := G) (ci := 11) (v := .ref a_3) (C := RX11) (T := TX11) (N := 11) hx hb hts (mm_i inlX11) hown hK.1 hP 0 rfl rfl 2 (by decide) (mm_h hts mm_w24) (fun _ h9 => h9) rfl dX11_average_45 ?_
                refine lv_iload_n hx hb dX11_average_48 rfl (lv_at hl 4 rfl) ?_
                refine lv_iload hx hb dX11_average_49 (lv_at hl 0 rfl) ?_
                refine lv_iload_n hx hb dX11_average_51 rfl (lv_at hl 5 rfl) ?_
                refine mm_finir (va_runV (As := [.int i_0, .int x35_7_173, .int i_1]) (rest := [.long x35_4_174]) ⟨hx, hb, hml, hown, hts⟩ (K374_X10_leaving l G cy H.size a_3 i_0 x35_7_173 i_1 a_12 a_13 i_3 i_4 i_5 i_6 i_7 i_8 i_9 i_10 a_14 a_15 a_16 a_17 a_18 a_19 a_20 a_21 a_22 a_23 f_0 f_1 f_2 f_3 f_4 a_24 a_25 a_26 a_27 a_28 i_11 i_12 i_13 f_5 a_29 a_30 i_14 i_15 i_16 f_6 a_31 a_32 i_17 i_18 i_19 f_7 w2 (mm_wk q180 (by decide)) w3 h0 h1 h4 h5 h6 h7 h8 h9 h10 h11 h12 h13 h14) (cwV 3 hts (mm_gV mm_w829 mm_w830 mm_w831 mm_w23 mm_w832) rfl rfl rfl hd_X10_leaving ⟨by rw [hRf]; exact Nat.le_of_ble_eq_true rfl, by rw [hRl]; exact Nat.le_of_ble_eq_true rfl⟩) (mm_preV hK hZ hS hA hP hD [1, 2, 3, 4, 5, 6, 7, 8, 9, 10, 11, 12, 13, 14] rfl rfl 1 rfl rfl rfl) rfl rfl hl.1 rfl (lv_room (Nat.le_of_ble_eq_true rfl)) dX11_average_52 ⟨by rw [hRc]; exact Nat.le_of_ble_eq_true rfl, by rw [hRs]; exact Nat.le_of_ble_eq_true rfl⟩) hP hD hS hA [1, 2, 3, 4, 5, 6, 7, 8, 9, 10, 11, 12, 13, 14] rfl (fun _ => rfl) ?_
                clear hP hD hS
                clear H locs
                intro v182 _u H locs hw hP hD hS
                obtain ⟨v183, ev183⟩ : ∃ y : Int64, y = v182.toInt64 := ⟨_, rfl⟩
                refine lv_i2l hx hb dX11_average_55 ev183.symm ?_
                have rv183 : mm_rl v183 (-2147483648) 2147483647 := mm_i2l ev183 (mm_top v182)
                refine lv_ladd hx hb dX11_average_56 ?_
                refine lv_topl (fun v184 ev184 => ?_)
                refine lv_lstore (lv' := [(4, .long v184), (7, .int x35_7_173), (6, .int v12), (0, .ref a_0), (1, .int i_0), (2, .int i_1), (3, .int i_2)]) hx hb dX11_average_57 hl (by decide) rfl ?_
                clear hl
                clear ls
                intro ls hl
                obtain ⟨v185, ev185⟩ : ∃ y : Int32, y = x35_7_173 + 1 := ⟨_, rfl⟩
                refine lv_iinc (v := v185) (lv' := [(7, .int v185), (4, .long v184), (6, .int v12), (0, .ref a_0), (1, .int i_0), (2, .int i_1), (3, .int i_2)]) hx hb dX11_average_59 hl (k := 1) rfl (by rw [ev185]; rfl) (by decide) rfl ?_
                clear hl
                clear ls
                intro ls hl
                have rv185 : mm_rg v185 1 210 := mm_add ev185 q180 mm_k1 (by decide) (by decide)
                have tv185 := mm_addEc ev185 q180 mm_k1 (by decide) (k := 1) (by decide)
                refine lv_goto (tgt := 35) hx hb dX11_average_62 (by decide) ?_
                exact ih35 v185 v184 (mm_wk rv185 (by decide)) (mm_mu hm35 tv185 (by decide) (rv185).2 (by decide)) H locs hP hD hS ls (lv_sub hl [0, 2, 1, 3, 4, 5, 6] rfl)
          exact L35_174 _ 0 0 (mm_wk mm_k0 (by decide)) (Nat.lt_succ_self _) H locs hP hD hS ls (lv_sub hl [0, 1, 2, 3, 4, 5, 6] rfl)
        · exact mm_eqN c11.symm mm_k0 mm_k1 (by decide)

set_option maxHeartbeats 4000000 in
set_option maxRecDepth 100000 in
theorem K415_X11_lost (l : Launch) (G : va_G) (cy : Nat → ClassId) (sz : Nat) (a_0 : Nat) (i_0 : Int32) (i_1 : Int32) (i_2 : Int32) (a_1 : Nat) (a_2 : Nat) (a_3 : Nat) (a_4 : Nat) (a_5 : Nat) (a_6 : Nat) (a_7 : Nat) (a_8 : Nat) (a_9 : Nat) (a_10 : Nat) (a_11 : Nat) (a_12 : Nat) (a_13 : Nat) (i_3 : Int32) (i_4 : Int32) (i_5 : Int32) (i_6 : Int32) (i_7 : Int32) (i_8 : Int32) (i_9 : Int32) (i_10 : Int32) (a_14 : Nat) (a_15 : Nat) (a_16 : Nat) (a_17 : Nat) (a_18 : Nat) (a_19 : Nat) (a_20 : Nat) (a_21 : Nat) (a_22 : Nat) (a_23 : Nat) (f_0 : Nat → Int32) (f_1 : Nat → Int32) (f_2 : Nat → Int32) (f_3 : Nat → Int32) (f_4 : Nat → Int32) (a_24 : Nat) (a_25 : Nat) (a_26 : Nat) (a_27 : Nat) (a_28 : Nat) (i_11 : Int32) (i_12 : Int32) (i_13 : Int32) (f_5 : Nat → Int32) (a_29 : Nat) (a_30 : Nat) (i_14 : Int32) (i_15 : Int32) (i_16 : Int32) (f_6 : Nat → Int32) (a_31 : Nat) (a_32 : Nat) (i_17 : Int32) (i_18 : Int32) (i_19 : Int32) (f_7 : Nat → Int32) (h0 : mm_rg i_6 0 99) (h1 : mm_rg i_7 0 9) (h2 : mm_rg i_8 0 3) (h3 : mm_rg i_9 0 6) (h4 : mm_ar f_0 (-1) 4) (h5 : mm_ar f_1 0 99) (h6 : mm_ar f_2 0 8) (h7 : mm_ar f_3 0 9) (h8 : mm_ar f_4 0 9) (h9 : mm_rg i_13 (-2147483648) 210) (h10 : mm_ar f_5 0 9) (h11 : mm_rg i_16 (-2147483648) 210) (h12 : mm_ar f_6 0 9) (h13 : mm_rg i_19 (-2147483648) 210) (h14 : mm_ar f_7 0 9)  : mm_CI l yX11_lost (mm_ws yX11_lost cX11_lost 5 (some .int)) ({ frames := 3, cells := 0, slots := 0, locals := 88 } : Room) G cy sz [(a_0, .inr (11, [.ref a_1, .ref a_2, .ref a_3, .ref a_4, .ref a_5, .ref a_6, .ref a_7, .ref a_8, .ref a_9, .ref a_10, .ref a_11])), (a_3, .inr (10, [.ref a_12, .ref a_13])), (a_12, .inr (0, [.int i_3, .int i_4, .int i_5, .int i_6, .int i_7, .int i_8, .int i_9, .int i_10, .ref a_14, .ref a_15, .ref a_16, .ref a_17, .ref a_18, .ref a_19, .ref a_20, .ref a_21, .ref a_22, .ref a_23])), (a_14, .inl (cy 1, 9, .inl f_0)), (a_15, .inl (cy 1, 9, .inl f_1)), (a_18, .inl (cy 1, 6, .inl f_2)), (a_19, .inl (cy 1, 48, .inl f_3)), (a_20, .inl (cy 1, 30, .inl f_4)), (a_13, .inl (cy 5, 3, .inr (.inr (.inr (.inr (va_up (va_up (va_up (fun _ => none) 0 (some a_24)) 1 (some a_25)) 2 (some a_26))))))), (a_24, .inr (1, [.ref a_27, .ref a_28, .int i_11, .int i_12, .int i_13])), (a_27, .inl (cy 1, 2100, .inl f_5)), (a_25, .inr (1, [.ref a_29, .ref a_30, .int i_14, .int i_15, .int i_16])), (a_29, .inl (cy 1, 2100, .inl f_6)), (a_26, .inr (1, [.ref a_31, .ref a_32, .int i_17, .int i_18, .int i_19])), (a_31, .inl (cy 1, 2100, .inl f_7))] [.ref a_0, .int i_0, .int i_1, .int i_2] (fun u : Unit => [(a_0, .inr (11, [.ref a_1, .ref a_2, .ref a_3, .ref a_4, .ref a_5, .ref a_6, .ref a_7, .ref a_8, .ref a_9, .ref a_10, .ref a_11])), (a_3, .inr (10, [.ref a_12, .ref a_13])), (a_12, .inr (0, [.int i_3, .int i_4, .int i_5, .int i_6, .int i_7, .int i_8, .int i_9, .int i_10, .ref a_14, .ref a_15, .ref a_16, .ref a_17, .ref a_18, .ref a_19, .ref a_20, .ref a_21, .ref a_22, .ref a_23])), (a_14, .inl (cy 1, 9, .inl f_0)), (a_15, .inl (cy 1, 9, .inl f_1)), (a_18, .inl (cy 1, 6, .inl f_2)), (a_19, .inl (cy 1, 48, .inl f_3)), (a_20, .inl (cy 1, 30, .inl f_4)), (a_13, .inl (cy 5, 3, .inr (.inr (.inr (.inr (va_up (va_up (va_up (fun _ => none) 0 (some a_24)) 1 (some a_25)) 2 (some a_26))))))), (a_24, .inr (1, [.ref a_27, .ref a_28, .int i_11, .int i_12, .int i_13])), (a_27, .inl (cy 1, 2100, .inl f_5)), (a_25, .inr (1, [.ref a_29, .ref a_30, .int i_14, .int i_15, .int i_16])), (a_29, .inl (cy 1, 2100, .inl f_6)), (a_26, .inr (1, [.ref a_31, .ref a_32, .int i_17, .int i_18, .int i_19])), (a_31, .inl (cy 1, 2100, .inl f_7))]) (fun (r : Int32) (u : Unit) => mm_rg r (-63) 8) 0 0 := by
  refine mm_begin (lv := [(0, .ref a_0), (1, .int i_0), (2, .int i_1), (3, .int i_2)]) (by decide) (Nat.le_of_ble_eq_true rfl) rfl ?_
  intro p e s m below meth c A ls R args Q H locs hRe hQ hAe hx hb hr hlocks hml hown hnm hts hsz hA hS hP hK hD hZ hl
  have hRf : R.frames = 3 := by rw [hRe]
  have hRl : R.locals = 88 := by rw [hRe]
  have hRc : R.cells = 0 := by rw [hRe]
  have hRs : R.slots = 0 := by rw [hRe]
  refine lv_aload_n hx hb dX11_lost_0 rfl (lv_at hl 0 rfl) ?_
  refine lv_iload_n hx hb dX11_lost_1 rfl (lv_at hl 1 rfl) ?_
  refine lv_iload_n hx hb dX11_lost_2 rfl (lv_at hl 2 rfl) ?_
  refine lv_iload_n hx hb dX11_lost_3 rfl (lv_at hl 3 rfl) ?_
  refine mm_finir (va_runV (As := [.int i_0, .int i_1, .int i_2]) (rest := []) ⟨hx, hb, hml, hown, hts⟩ (K371_X11_isReading l G cy H.size a_0 i_0 i_1 i_2 a_1 a_2 a_3 a_4 a_5 a_6 a_7 a_8 a_9 a_10 a_11 a_12 a_13 i_3 i_4 i_5 i_6 i_7 i_8 i_9 i_10 a_14 a_15 a_16 a_17 a_18 a_19 a_20 a_21 a_22 a_23 h2 h3) (cwV 3 hts (mm_gV mm_w825 mm_w826 mm_w827 mm_w2 mm_w828) rfl rfl rfl hd_X11_isReading ⟨by rw [hRf]; exact Nat.le_of_ble_eq_true rfl, by rw [hRl]; exact Nat.le_of_ble_eq_true rfl⟩) (mm_preV hK hZ hS hA hP hD [0, 1, 2] rfl rfl 0 rfl rfl rfl) rfl rfl hl.1 rfl (lv_room (Nat.le_of_ble_eq_true rfl)) dX11_lost_4 ⟨by rw [hRc]; exact Nat.le_of_ble_eq_true rfl, by rw [hRs]; exact Nat.le_of_ble_eq_true rfl⟩) hP hD hS hA [0, 1, 2] rfl (fun _ => rfl) ?_
  clear hP hD hS
  clear H locs
  intro v1 _u H locs hw hP hD hS
  rcases hw with rfl | ⟨rfl, w2, w3, w4⟩
  · refine lv_if_ne (tgt := 13) hx hb dX11_lost_7 (by decide) (fun c5 => ?_) (fun c5 => ?_)
    · have q6 := mm_neL (lo := 1) (mm_ne c5) mm_k0 mm_k0 (by decide) (by decide)
      exact mm_no q6 (by decide)
    · refine lv_bipush (v := (-2)) hx hb dX11_lost_10 (by decide) ?_
      subst hAe
      rw [hQ]
      exact W.iret (v := (-2)) hx hb hr (fun t ht hW => ⟨⟨(-2), (), rfl, (mm_wk mm_km2 (by decide)), by rw [ht]; exact hP, hK.warm hW, hD⟩, hS.F ht⟩) hS.2.2 dX11_lost_12
  · refine lv_if_ne (tgt := 13) hx hb dX11_lost_7 (by decide) (fun c7 => ?_) (fun c7 => ?_)
    · refine lv_aload_n hx hb dX11_lost_13 rfl (lv_at hl 0 rfl) ?_
      refine va_get (D := G) (ci := 11) (v := .ref a_3) (C := RX11) (T := TX11) (N := 11) hx hb hts (mm_i inlX11) hown hK.1 hP 0 rfl rfl 2 (by decide) (mm_h hts mm_w24) (fun _ h9 => h9) rfl dX11_lost_14 ?_
      refine lv_iload_n hx hb dX11_lost_17 rfl (lv_at hl 1 rfl) ?_
      refine lv_iload_n hx hb dX11_lost_18 rfl (lv_at hl 2 rfl) ?_
      refine lv_iload_n hx hb dX11_lost_19 rfl (lv_at hl 3 rfl) ?_
      refine mm_finir (va_runV (As := [.int i_0, .int i_1, .int i_2]) (rest := []) ⟨hx, hb, hml, hown, hts⟩ (K376_X10_placesRead l G cy H.size a_3 i_0 i_1 i_2 a_12 a_13 i_3 i_4 i_5 i_6 i_7 i_8 i_9 i_10 a_14 a_15 a_16 a_17 a_18 a_19 a_20 a_21 a_22 a_23 f_0 f_1 f_2 f_3 f_4 a_24 a_25 a_26 a_27 a_28 i_11 i_12 i_13 f_5 a_29 a_30 i_14 i_15 i_16 f_6 a_31 a_32 i_17 i_18 i_19 f_7 w2 (mm_wk w3 (by decide)) w4 h0 h1 h4 h5 h6 h7 h8 h9 h10 h11 h12 h13 h14) (cwV 3 hts (mm_gV mm_w875 mm_w876 mm_w877 mm_w23 mm_w878) rfl rfl rfl hd_X10_placesRead ⟨by rw [hRf]; exact Nat.le_of_ble_eq_true rfl, by rw [hRl]; exact Nat.le_of_ble_eq_true rfl⟩) (mm_preV hK hZ hS hA hP hD [1, 2, 3, 4, 5, 6, 7, 8, 9, 10, 11, 12, 13, 14] rfl rfl 1 rfl rfl rfl) rfl rfl hl.1 rfl (lv_room (Nat.le_of_ble_eq_true rfl)) dX11_lost_20 ⟨by rw [hRc]; exact Nat.le_of_ble_eq_true rfl, by rw [hRs]; exact Nat.le_of_ble_eq_true rfl⟩) hP hD hS hA [1, 2, 3, 4, 5, 6, 7, 8, 9, 10, 11, 12, 13, 14] rfl (fun _ => rfl) ?_
      clear hP hD hS
      clear H locs
      intro v8 _u H locs hw hP hD hS
      have w9 := hw
      refine lv_istore (lv' := [(4, .int v8), (0, .ref a_0), (1, .int i_0), (2, .int i_1), (3, .int i_2)]) hx hb dX11_lost_23 hl (by decide) rfl ?_
      clear hl
      clear ls
      intro ls hl
      refine lv_aload_n hx hb dX11_lost_25 rfl (lv_at hl 1 rfl) ?_
      refine va_get (D := G) (ci := 11) (v := .ref a_3) (C := RX11) (T := TX11) (N := 11) hx hb hts (mm_i inlX11) hown hK.1 hP 0 rfl rfl 2 (by decide) (mm_h hts mm_w24) (fun _ h9 => h9) rfl dX11_lost_26 ?_
      refine va_get (D := G) (ci := 10) (v := .ref a_12) (C := RX10) (T := TX10) (N := 2) hx hb hts (mm_i inlX10) hown hK.1 hP 1 rfl rfl 0 (by decide) (mm_h hts mm_w199) (fun _ h9 => h9) rfl dX11_lost_29 ?_
      refine va_get (D := G) (ci := 0) (v := .ref a_18) (C := RX0) (T := TX0) (N := 18) hx hb hts (mm_i inlX0) hown hK.1 hP 2 rfl rfl 12 (by decide) (mm_h hts mm_w599) (fun _ h9 => h9) rfl dX11_lost_32 ?_
      refine lv_iload_n hx hb dX11_lost_35 rfl (lv_at hl 4 rfl) ?_
      refine va_iald hx hb hK.1 hP 5 1 rfl rfl (mm_in w4 (by decide)) dX11_lost_36 ?_
      refine lv_topi (fun v10 ev10 => ?_)
      have rv10 : mm_rg v10 0 8 := mm_eqv ev10 (h6 _)
      refine lv_iload hx hb dX11_lost_37 (lv_at hl 0 rfl) ?_
      refine mm_finir (va_runS (As := [.int v8]) (rest := [.int v10]) ⟨hx, hb, hml, hown, hts⟩ (K377_J6_bitCount_0f7a4 l G cy H.size v8 ) (va_cwS 1 hts (mm_gS mm_w879 mm_w880 mm_w881 mm_w882) rfl rfl rfl hs_J6_bitCount_0f7a4 ⟨by rw [hRf]; exact Nat.le_of_ble_eq_true rfl, by rw [hRl]; exact Nat.le_of_ble_eq_true rfl⟩) (mm_preS hK hZ hS hA hP hD [] rfl rfl) rfl rfl hl.1 rfl (lv_room (Nat.le_of_ble_eq_true rfl)) dX11_lost_39 ⟨by rw [hRc]; exact Nat.le_of_ble_eq_true rfl, by rw [hRs]; exact Nat.le_of_ble_eq_true rfl⟩) hP hD hS hA [] rfl (fun _ => rfl) ?_
      clear hP hD hS
      clear H locs
      intro v11 _u H locs hw hP hD hS
      have w12 := hw
      refine lv_isub hx hb dX11_lost_42 ?_
      refine lv_topi (fun v13 ev13 => ?_)
      have rv13 : mm_rg v13 (-63) 8 := mm_sub ev13 rv10 w12 (by decide) (by decide)
      have tv13 := mm_subE ev13 rv10 w12 (by decide)
      subst hAe
      rw [hQ]
      exact W.iret (v := v13) hx hb hr (fun t ht hW => ⟨⟨v13, (), rfl, rv13, by rw [ht]; exact hP, hK.warm hW, hD⟩, hS.F ht⟩) hS.2.2 dX11_lost_43
    · exact mm_eqN c7.symm mm_k0 mm_k1 (by decide)

set_option maxHeartbeats 4000000 in
set_option maxRecDepth 100000 in
theorem K416_X11_kinds (l : Launch) (G : va_G) (cy : Nat → ClassId) (sz : Nat) (a_0 : Nat) (i_0 : Int32) (i_1 : Int32) (i_2 : Int32) (a_1 : Nat) (a_2 : Nat) (a_3 : Nat) (a_4 : Nat) (a_5 : Nat) (a_6 : Nat) (a_7 : Nat) (a_8 : Nat) (a_9 : Nat) (a_10 : Nat) (a_11 : Nat) (a_12 : Nat) (a_13 : Nat) (i_3 : Int32) (i_4 : Int32) (i_5 : Int32) (i_6 : Int32) (i_7 : Int32) (i_8 : Int32) (i_9 : Int32) (i_10 : Int32) (a_14 : Nat) (a_15 : Nat) (a_16 : Nat) (a_17 : Nat) (a_18 : Nat) (a_19 : Nat) (a_20 : Nat) (a_21 : Nat) (a_22 : Nat) (a_23 : Nat) (f_0 : Nat → Int32) (f_1 : Nat → Int32) (f_2 : Nat → Int32) (f_3 : Nat → Int32) (f_4 : Nat → Int32) (a_24 : Nat) (a_25 : Nat) (a_26 : Nat) (a_27 : Nat) (a_28 : Nat) (i_11 : Int32) (i_12 : Int32) (i_13 : Int32) (f_5 : Nat → Int32) (a_29 : Nat) (a_30 : Nat) (i_14 : Int32) (i_15 : Int32) (i_16 : Int32) (f_6 : Nat → Int32) (a_31 : Nat) (a_32 : Nat) (i_17 : Int32) (i_18 : Int32) (i_19 : Int32) (f_7 : Nat → Int32) (h0 : mm_rg i_6 0 99) (h1 : mm_rg i_7 0 9) (h2 : mm_rg i_8 0 3) (h3 : mm_rg i_9 0 6) (h4 : mm_ar f_0 (-1) 4) (h5 : mm_ar f_1 0 99) (h6 : mm_ar f_2 0 8) (h7 : mm_ar f_3 0 9) (h8 : mm_ar f_4 0 9) (h9 : mm_rg i_13 (-2147483648) 210) (h10 : mm_ar f_5 0 9) (h11 : mm_rg i_16 (-2147483648) 210) (h12 : mm_ar f_6 0 9) (h13 : mm_rg i_19 (-2147483648) 210) (h14 : mm_ar f_7 0 9)  : mm_CI l yX11_kinds (mm_ws yX11_kinds cX11_kinds 8 (some .int)) ({ frames := 3, cells := 0, slots := 0, locals := 88 } : Room) G cy sz [(a_0, .inr (11, [.ref a_1, .ref a_2, .ref a_3, .ref a_4, .ref a_5, .ref a_6, .ref a_7, .ref a_8, .ref a_9, .ref a_10, .ref a_11])), (a_3, .inr (10, [.ref a_12, .ref a_13])), (a_12, .inr (0, [.int i_3, .int i_4, .int i_5, .int i_6, .int i_7, .int i_8, .int i_9, .int i_10, .ref a_14, .ref a_15, .ref a_16, .ref a_17, .ref a_18, .ref a_19, .ref a_20, .ref a_21, .ref a_22, .ref a_23])), (a_14, .inl (cy 1, 9, .inl f_0)), (a_15, .inl (cy 1, 9, .inl f_1)), (a_18, .inl (cy 1, 6, .inl f_2)), (a_19, .inl (cy 1, 48, .inl f_3)), (a_20, .inl (cy 1, 30, .inl f_4)), (a_13, .inl (cy 5, 3, .inr (.inr (.inr (.inr (va_up (va_up (va_up (fun _ => none) 0 (some a_24)) 1 (some a_25)) 2 (some a_26))))))), (a_24, .inr (1, [.ref a_27, .ref a_28, .int i_11, .int i_12, .int i_13])), (a_27, .inl (cy 1, 2100, .inl f_5)), (a_25, .inr (1, [.ref a_29, .ref a_30, .int i_14, .int i_15, .int i_16])), (a_29, .inl (cy 1, 2100, .inl f_6)), (a_26, .inr (1, [.ref a_31, .ref a_32, .int i_17, .int i_18, .int i_19])), (a_31, .inl (cy 1, 2100, .inl f_7))] [.ref a_0, .int i_0, .int i_1, .int i_2] (fun u : Unit => [(a_0, .inr (11, [.ref a_1, .ref a_2, .ref a_3, .ref a_4, .ref a_5, .ref a_6, .ref a_7, .ref a_8, .ref a_9, .ref a_10, .ref a_11])), (a_3, .inr (10, [.ref a_12, .ref a_13])), (a_12, .inr (0, [.int i_3, .int i_4, .int i_5, .int i_6, .int i_7, .int i_8, .int i_9, .int i_10, .ref a_14, .ref a_15, .ref a_16, .ref a_17, .ref a_18, .ref a_19, .ref a_20, .ref a_21, .ref a_22, .ref a_23])), (a_14, .inl (cy 1, 9, .inl f_0)), (a_15, .inl (cy 1, 9, .inl f_1)), (a_18, .inl (cy 1, 6, .inl f_2)), (a_19, .inl (cy 1, 48, .inl f_3)), (a_20, .inl (cy 1, 30, .inl f_4)), (a_13, .inl (cy 5, 3, .inr (.inr (.inr (.inr (va_up (va_up (va_up (fun _ => none) 0 (some a_24)) 1 (some a_25)) 2 (some a_26))))))), (a_24, .inr (1, [.ref a_27, .ref a_28, .int i_11, .int i_12, .int i_13])), (a_27, .inl (cy 1, 2100, .inl f_5)), (a_25, .inr (1, [.ref a_29, .ref a_30, .int i_14, .int i_15, .int i_16])), (a_29, .inl (cy 1, 2100, .inl f_6)), (a_26, .inr (1, [.ref a_31, .ref a_32, .int i_17, .int i_18, .int i_19])), (a_31, .inl (cy 1, 2100, .inl f_7))]) (fun (r : Int32) (u : Unit) => True) 0 0 := by
  refine mm_begin (lv := [(0, .ref a_0), (1, .int i_0), (2, .int i_1), (3, .int i_2)]) (by decide) (Nat.le_of_ble_eq_true rfl) rfl ?_
  intro p e s m below meth c A ls R args Q H locs hRe hQ hAe hx hb hr hlocks hml hown hnm hts hsz hA hS hP hK hD hZ hl
  have hRf : R.frames = 3 := by rw [hRe]
  have hRl : R.locals = 88 := by rw [hRe]
  have hRc : R.cells = 0 := by rw [hRe]
  have hRs : R.slots = 0 := by rw [hRe]
  refine lv_aload_n hx hb dX11_kinds_0 rfl (lv_at hl 0 rfl) ?_
  refine lv_iload_n hx hb dX11_kinds_1 rfl (lv_at hl 1 rfl) ?_
  refine lv_iload_n hx hb dX11_kinds_2 rfl (lv_at hl 2 rfl) ?_
  refine lv_iload_n hx hb dX11_kinds_3 rfl (lv_at hl 3 rfl) ?_
  refine mm_finir (va_runV (As := [.int i_0, .int i_1, .int i_2]) (rest := []) ⟨hx, hb, hml, hown, hts⟩ (K371_X11_isReading l G cy H.size a_0 i_0 i_1 i_2 a_1 a_2 a_3 a_4 a_5 a_6 a_7 a_8 a_9 a_10 a_11 a_12 a_13 i_3 i_4 i_5 i_6 i_7 i_8 i_9 i_10 a_14 a_15 a_16 a_17 a_18 a_19 a_20 a_21 a_22 a_23 h2 h3) (cwV 3 hts (mm_gV mm_w825 mm_w826 mm_w827 mm_w2 mm_w828) rfl rfl rfl hd_X11_isReading ⟨by rw [hRf]; exact Nat.le_of_ble_eq_true rfl, by rw [hRl]; exact Nat.le_of_ble_eq_true rfl⟩) (mm_preV hK hZ hS hA hP hD [0, 1, 2] rfl rfl 0 rfl rfl rfl) rfl rfl hl.1 rfl (lv_room (Nat.le_of_ble_eq_true rfl)) dX11_kinds_4 ⟨by rw [hRc]; exact Nat.le_of_ble_eq_true rfl, by rw [hRs]; exact Nat.le_of_ble_eq_true rfl⟩) hP hD hS hA [0, 1, 2] rfl (fun _ => rfl) ?_
  clear hP hD hS
  clear H locs
  intro v1 _u H locs hw hP hD hS
  rcases hw with rfl | ⟨rfl, w2, w3, w4⟩
  · refine lv_if_ne (tgt := 13) hx hb dX11_kinds_7 (by decide) (fun c5 => ?_) (fun c5 => ?_)
    · have q6 := mm_neL (lo := 1) (mm_ne c5) mm_k0 mm_k0 (by decide) (by decide)
      exact mm_no q6 (by decide)
    · refine lv_bipush (v := (-2)) hx hb dX11_kinds_10 (by decide) ?_
      subst hAe
      rw [hQ]
      exact W.iret (v := (-2)) hx hb hr (fun t ht hW => ⟨⟨(-2), (), rfl, trivial, by rw [ht]; exact hP, hK.warm hW, hD⟩, hS.F ht⟩) hS.2.2 dX11_kinds_12
  · refine lv_if_ne (tgt := 13) hx hb dX11_kinds_7 (by decide) (fun c7 => ?_) (fun c7 => ?_)
    · refine lv_iconst (v := 0) hx hb dX11_kinds_13 (by decide) ?_
      refine lv_istore (lv' := [(4, .int 0), (0, .ref a_0), (1, .int i_0), (2, .int i_1), (3, .int i_2)]) hx hb dX11_kinds_14 hl (by decide) rfl ?_
      clear hl
      clear ls
      intro ls hl
      refine lv_aload_n hx hb dX11_kinds_16 rfl (lv_at hl 1 rfl) ?_
      refine va_get (D := G) (ci := 11) (v := .ref a_3) (C := RX11) (T := TX11) (N := 11) hx hb hts (mm_i inlX11) hown hK.1 hP 0 rfl rfl 2 (by decide) (mm_h hts mm_w24) (fun _ h9 => h9) rfl dX11_kinds_17 ?_
      refine lv_iload_n hx hb dX11_kinds_20 rfl (lv_at hl 2 rfl) ?_
      refine lv_iload_n hx hb dX11_kinds_21 rfl (lv_at hl 3 rfl) ?_
      refine lv_iload_n hx hb dX11_kinds_22 rfl (lv_at hl 4 rfl) ?_
      refine mm_finir (va_runV (As := [.int i_0, .int i_1, .int i_2]) (rest := []) ⟨hx, hb, hml, hown, hts⟩ (K376_X10_placesRead l G cy H.size a_3 i_0 i_1 i_2 a_12 a_13 i_3 i_4 i_5 i_6 i_7 i_8 i_9 i_10 a_14 a_15 a_16 a_17 a_18 a_19 a_20 a_21 a_22 a_23 f_0 f_1 f_2 f_3 f_4 a_24 a_25 a_26 a_27 a_28 i_11 i_12 i_13 f_5 a_29 a_30 i_14 i_15 i_16 f_6 a_31 a_32 i_17 i_18 i_19 f_7 w2 (mm_wk w3 (by decide)) w4 h0 h1 h4 h5 h6 h7 h8 h9 h10 h11 h12 h13 h14) (cwV 3 hts (mm_gV mm_w875 mm_w876 mm_w877 mm_w23 mm_w878) rfl rfl rfl hd_X10_placesRead ⟨by rw [hRf]; exact Nat.le_of_ble_eq_true rfl, by rw [hRl]; exact Nat.le_of_ble_eq_true rfl⟩) (mm_preV hK hZ hS hA hP hD [1, 2, 3, 4, 5, 6, 7, 8, 9, 10, 11, 12, 13, 14] rfl rfl 1 rfl rfl rfl) rfl rfl hl.1 rfl (lv_room (Nat.le_of_ble_eq_true rfl)) dX11_kinds_23 ⟨by rw [hRc]; exact Nat.le_of_ble_eq_true rfl, by rw [hRs]; exact Nat.le_of_ble_eq_true rfl⟩) hP hD hS hA [1, 2, 3, 4, 5, 6, 7, 8, 9, 10, 11, 12, 13, 14] rfl (fun _ => rfl) ?_
      clear hP hD hS
      clear H locs
      intro v8 _u H locs hw hP hD hS
      have w9 := hw
      refine lv_istore (lv' := [(5, .int v8), (4, .int 0), (0, .ref a_0), (1, .int i_0), (2, .int i_1), (3, .int i_2)]) hx hb dX11_kinds_26 hl (by decide) rfl ?_
      clear hl
      clear ls
      intro ls hl
      refine lv_iconst (v := 0) hx hb dX11_kinds_28 (by decide) ?_
      refine lv_istore (lv' := [(6, .int 0), (5, .int v8), (4, .int 0), (0, .ref a_0), (1, .int i_0), (2, .int i_1), (3, .int i_2)]) hx hb dX11_kinds_29 hl (by decide) rfl ?_
      clear hl
      clear ls
      intro ls hl
      have L31_228 : ∀ (n : Nat) (x31_6_227 : Int32) (x31_4_228 : Int32), mm_rg x31_6_227 0 8 → (8 - x31_6_227.toInt).toNat < n → ∀ (H : Heap) (locs : List Loc), va_P G vwCl [(a_0, .inr (11, [.ref a_1, .ref a_2, .ref a_3, .ref a_4, .ref a_5, .ref a_6, .ref a_7, .ref a_8, .ref a_9, .ref a_10, .ref a_11])), (a_3, .inr (10, [.ref a_12, .ref a_13])), (a_12, .inr (0, [.int i_3, .int i_4, .int i_5, .int i_6, .int i_7, .int i_8, .int i_9, .int i_10, .ref a_14, .ref a_15, .ref a_16, .ref a_17, .ref a_18, .ref a_19, .ref a_20, .ref a_21, .ref a_22, .ref a_23])), (a_14, .inl (cy 1, 9, .inl f_0)), (a_15, .inl (cy 1, 9, .inl f_1)), (a_18, .inl (cy 1, 6, .inl f_2)), (a_19, .inl (cy 1, 48, .inl f_3)), (a_20, .inl (cy 1, 30, .inl f_4)), (a_13, .inl (cy 5, 3, .inr (.inr (.inr (.inr (va_up (va_up (va_up (fun _ => none) 0 (some a_24)) 1 (some a_25)) 2 (some a_26))))))), (a_24, .inr (1, [.ref a_27, .ref a_28, .int i_11, .int i_12, .int i_13])), (a_27, .inl (cy 1, 2100, .inl f_5)), (a_25, .inr (1, [.ref a_29, .ref a_30, .int i_14, .int i_15, .int i_16])), (a_29, .inl (cy 1, 2100, .inl f_6)), (a_26, .inr (1, [.ref a_31, .ref a_32, .int i_17, .int i_18, .int i_19])), (a_31, .inl (cy 1, 2100, .inl f_7))] H → va_D A [(a_0, .inr (11, [.ref a_1, .ref a_2, .ref a_3, .ref a_4, .ref a_5, .ref a_6, .ref a_7, .ref a_8, .ref a_9, .ref a_10, .ref a_11])), (a_3, .inr (10, [.ref a_12, .ref a_13])), (a_12, .inr (0, [.int i_3, .int i_4, .int i_5, .int i_6, .int i_7, .int i_8, .int i_9, .int i_10, .ref a_14, .ref a_15, .ref a_16, .ref a_17, .ref a_18, .ref a_19, .ref a_20, .ref a_21, .ref a_22, .ref a_23])), (a_14, .inl (cy 1, 9, .inl f_0)), (a_15, .inl (cy 1, 9, .inl f_1)), (a_18, .inl (cy 1, 6, .inl f_2)), (a_19, .inl (cy 1, 48, .inl f_3)), (a_20, .inl (cy 1, 30, .inl f_4)), (a_13, .inl (cy 5, 3, .inr (.inr (.inr (.inr (va_up (va_up (va_up (fun _ => none) 0 (some a_24)) 1 (some a_25)) 2 (some a_26))))))), (a_24, .inr (1, [.ref a_27, .ref a_28, .int i_11, .int i_12, .int i_13])), (a_27, .inl (cy 1, 2100, .inl f_5)), (a_25, .inr (1, [.ref a_29, .ref a_30, .int i_14, .int i_15, .int i_16])), (a_29, .inl (cy 1, 2100, .inl f_6)), (a_26, .inr (1, [.ref a_31, .ref a_32, .int i_17, .int i_18, .int i_19])), (a_31, .inl (cy 1, 2100, .inl f_7))] → va_S A s.heap H locs → ∀ (ls : Array Slot), lv_has ls 8 [(6, .int x31_6_227), (5, .int v8), (4, .int x31_4_228), (0, .ref a_0), (1, .int i_0), (2, .int i_1), (3, .int i_2)] → W p l e R s m args below meth c H locs 0 0 Q (F0 m 31 ls []) := by
        intro n
        induction n with
        | zero => intro x31_6_227 x31_4_228 rx31_6_227 hm; exact absurd hm (Nat.not_lt_zero _)
        | succ n ih31 =>
          intro x31_6_227 x31_4_228 rx31_6_227 hm31 H locs hP hD hS ls hl
          refine lv_iload hx hb dX11_kinds_31 (lv_at hl 0 rfl) ?_
          refine lv_aload_n hx hb dX11_kinds_33 rfl (lv_at hl 3 rfl) ?_
          refine va_get (D := G) (ci := 11) (v := .ref a_3) (C := RX11) (T := TX11) (N := 11) hx hb hts (mm_i inlX11) hown hK.1 hP 0 rfl rfl 2 (by decide) (mm_h hts mm_w24) (fun _ h9 => h9) rfl dX11_kinds_34 ?_
          refine va_get (D := G) (ci := 10) (v := .ref a_12) (C := RX10) (T := TX10) (N := 2) hx hb hts (mm_i inlX10) hown hK.1 hP 1 rfl rfl 0 (by decide) (mm_h hts mm_w199) (fun _ h9 => h9) rfl dX11_kinds_37 ?_
          refine va_get (D := G) (ci := 0) (v := .ref a_18) (C := RX0) (T := TX0) (N := 18) hx hb hts (mm_i inlX0) hown hK.1 hP 2 rfl rfl 12 (by decide) (mm_h hts mm_w599) (fun _ h9 => h9) rfl dX11_kinds_40 ?_
          refine lv_iload_n hx hb dX11_kinds_43 rfl (lv_at hl 6 rfl) ?_
          refine va_iald hx hb hK.1 hP 5 1 rfl rfl (mm_in w4 (by decide)) dX11_kinds_44 ?_
          refine lv_topi (fun v230 ev230 => ?_)
          have rv230 : mm_rg v230 0 8 := mm_eqv ev230 (h6 _)
          refine lv_icmp_ge (tgt := 124) hx hb dX11_kinds_45 (by decide) (fun c231 => ?_) (fun c231 => ?_)
          · refine lv_iload hx hb dX11_kinds_124 (lv_at hl 2 rfl) ?_
            subst hAe
            rw [hQ]
            exact W.iret (v := x31_4_228) hx hb hr (fun t ht hW => ⟨⟨x31_4_228, (), rfl, trivial, by rw [ht]; exact hP, hK.warm hW, hD⟩, hS.F ht⟩) hS.2.2 dX11_kinds_126
          · have q232 := mm_ltL (h := 7) (mm_nle c231) rx31_6_227 rv230 (by decide)
            have q233 := mm_ltR (lo := 1) (mm_nle c231) rx31_6_227 rv230 (by decide)
            refine lv_aload_n hx hb dX11_kinds_48 rfl (lv_at hl 3 rfl) ?_
            refine va_get (D := G) (ci := 11) (v := .ref a_3) (C := RX11) (T := TX11) (N := 11) hx hb hts (mm_i inlX11) hown hK.1 hP 0 rfl rfl 2 (by decide) (mm_h hts mm_w24) (fun _ h9 => h9) rfl dX11_kinds_49 ?_
            refine lv_iload_n hx hb dX11_kinds_52 rfl (lv_at hl 4 rfl) ?_
            refine lv_iload_n hx hb dX11_kinds_53 rfl (lv_at hl 5 rfl) ?_
            refine lv_aload_n hx hb dX11_kinds_54 rfl (lv_at hl 3 rfl) ?_
            refine va_get (D := G) (ci := 11) (v := .ref a_3) (C := RX11) (T := TX11) (N := 11) hx hb hts (mm_i inlX11) hown hK.1 hP 0 rfl rfl 2 (by decide) (mm_h hts mm_w24) (fun _ h9 => h9) rfl dX11_kinds_55 ?_
            refine va_get (D := G) (ci := 10) (v := .ref a_12) (C := RX10) (T := TX10) (N := 2) hx hb hts (mm_i inlX10) hown hK.1 hP 1 rfl rfl 0 (by decide) (mm_h hts mm_w199) (fun _ h9 => h9) rfl dX11_kinds_58 ?_
            refine lv_iload_n hx hb dX11_kinds_61 rfl (lv_at hl 6 rfl) ?_
            refine lv_iload hx hb dX11_kinds_62 (lv_at hl 0 rfl) ?_
            refine mm_finir (va_runV (As := [.int i_2, .int x31_6_227]) (rest := [.int i_1, .int i_0, .ref a_3]) ⟨hx, hb, hml, hown, hts⟩ (K348_X0_wordAt l G cy H.size a_12 i_2 x31_6_227 i_3 i_4 i_5 i_6 i_7 i_8 i_9 i_10 a_14 a_15 a_16 a_17 a_18 a_19 a_20 a_21 a_22 a_23 f_3 w4 q232 h7) (cwV 2 hts (mm_gV mm_w605 mm_w606 mm_w607 mm_w28 mm_w608) rfl rfl rfl hd_X0_wordAt ⟨by rw [hRf]; exact Nat.le_of_ble_eq_true rfl, by rw [hRl]; exact Nat.le_of_ble_eq_true rfl⟩) (mm_preV hK hZ hS hA hP hD [2, 6] rfl rfl 2 rfl rfl rfl) rfl rfl hl.1 rfl (lv_room (Nat.le_of_ble_eq_true rfl)) dX11_kinds_64 ⟨by rw [hRc]; exact Nat.le_of_ble_eq_true rfl, by rw [hRs]; exact Nat.le_of_ble_eq_true rfl⟩) hP hD hS hA [2, 6] rfl (fun _ => rfl) ?_
            clear hP hD hS
            clear H locs
            intro v234 _u H locs hw hP hD hS
            have w235 := hw
            refine mm_finir (va_runV (As := [.int i_0, .int i_1, .int v234]) (rest := []) ⟨hx, hb, hml, hown, hts⟩ (K355_X10_meaning l G cy H.size a_3 i_0 i_1 v234 a_12 a_13 i_3 i_4 i_5 i_6 i_7 i_8 i_9 i_10 a_14 a_15 a_16 a_17 a_18 a_19 a_20 a_21 a_22 a_23 f_4 a_24 a_25 a_26 a_27 a_28 i_11 i_12 i_13 f_5 a_29 a_30 i_14 i_15 i_16 f_6 a_31 a_32 i_17 i_18 i_19 f_7 w2 (mm_wk w3 (by decide)) w235 h8 h9 h10 h11 h12 h13 h14) (cwV 3 hts (mm_gV mm_w665 mm_w666 mm_w667 mm_w23 mm_w668) rfl rfl rfl hd_X10_meaning ⟨by rw [hRf]; exact Nat.le_of_ble_eq_true rfl, by rw [hRl]; exact Nat.le_of_ble_eq_true rfl⟩) (mm_preV hK hZ hS hA hP hD [1, 2, 7, 8, 9, 10, 11, 12, 13, 14] rfl rfl 1 rfl rfl rfl) rfl rfl hl.1 rfl (lv_room (Nat.le_of_ble_eq_true rfl)) dX11_kinds_67 ⟨by rw [hRc]; exact Nat.le_of_ble_eq_true rfl, by rw [hRs]; exact Nat.le_of_ble_eq_true rfl⟩) hP hD hS hA [1, 2, 7, 8, 9, 10, 11, 12, 13, 14] rfl (fun _ => rfl) ?_
            clear hP hD hS
            clear H locs
            intro v236 _u H locs hw hP hD hS
            have w237 := hw
            refine lv_istore (lv' := [(7, .int v236), (6, .int x31_6_227), (5, .int v8), (4, .int x31_4_228), (0, .ref a_0), (1, .int i_0), (2, .int i_1), (3, .int i_2)]) hx hb dX11_kinds_70 hl (by decide) rfl ?_
            clear hl
            clear ls
            intro ls hl
            refine lv_iload hx hb dX11_kinds_72 (lv_at hl 2 rfl) ?_
            refine lv_iload hx hb dX11_kinds_74 (lv_at hl 1 rfl) ?_
            refine lv_ishr hx hb dX11_kinds_76 ?_
            refine lv_topi (fun v238 ev238 => ?_)
            refine lv_iconst (v := 1) hx hb dX11_kinds_77 (by decide) ?_
            refine lv_iand hx hb dX11_kinds_78 ?_
            refine lv_topi (fun v239 ev239 => ?_)
            have rv239 : mm_rg v239 0 1 := mm_andR ev239 mm_k1 (by decide)
            refine lv_iconst (v := 1) hx hb dX11_kinds_79 (by decide) ?_
            refine lv_icmp_ne (tgt := 118) hx hb dX11_kinds_80 (by decide) (fun c240 => ?_) (fun c240 => ?_)
            · have q241 := mm_neH (hi := 0) (mm_ne c240) rv239 mm_k1 (by decide) (by decide)
              obtain ⟨v242, ev242⟩ : ∃ y : Int32, y = x31_6_227 + 1 := ⟨_, rfl⟩
              refine lv_iinc (v := v242) (lv' := [(6, .int v242), (7, .int v236), (5, .int v8), (4, .int x31_4_228), (0, .ref a_0), (1, .int i_0), (2, .int i_1), (3, .int i_2)]) hx hb dX11_kinds_118 hl (k := 1) rfl (by rw [ev242]; rfl) (by decide) rfl ?_
              clear hl
              clear ls
              intro ls hl
              have rv242 : mm_rg v242 1 8 := mm_add ev242 q232 mm_k1 (by decide) (by decide)
              have tv242 := mm_addEc ev242 q232 mm_k1 (by decide) (k := 1) (by decide)
              refine lv_goto (tgt := 31) hx hb dX11_kinds_121 (by decide) ?_
              exact ih31 v242 x31_4_228 (mm_wk rv242 (by decide)) (mm_mu hm31 tv242 (by decide) (rv242).2 (by decide)) H locs hP hD hS ls (lv_sub hl [0, 2, 3, 4, 5, 6, 7] rfl)
            · have q243 := mm_eqI (lo := 1) (hi := 1) c240 rv239 mm_k1 (by decide)
              refine lv_iload hx hb dX11_kinds_83 (lv_at hl 0 rfl) ?_
              refine lv_aload_n hx hb dX11_kinds_85 rfl (lv_at hl 4 rfl) ?_
              refine va_get (D := G) (ci := 11) (v := .ref a_3) (C := RX11) (T := TX11) (N := 11) hx hb hts (mm_i inlX11) hown hK.1 hP 0 rfl rfl 2 (by decide) (mm_h hts mm_w24) (fun _ h9 => h9) rfl dX11_kinds_86 ?_
              refine va_get (D := G) (ci := 10) (v := .ref a_12) (C := RX10) (T := TX10) (N := 2) hx hb hts (mm_i inlX10) hown hK.1 hP 1 rfl rfl 0 (by decide) (mm_h hts mm_w199) (fun _ h9 => h9) rfl dX11_kinds_89 ?_
              refine va_get (D := G) (ci := 0) (v := .int i_7) (C := RX0) (T := TX0) (N := 18) hx hb hts (mm_i inlX0) hown hK.1 hP 2 rfl rfl 4 (by decide) (mm_h hts mm_w580) (fun _ h9 => h9) rfl dX11_kinds_92 ?_
              refine lv_icmp_ge (tgt := 118) hx hb dX11_kinds_95 (by decide) (fun c244 => ?_) (fun c244 => ?_)
              · obtain ⟨v245, ev245⟩ : ∃ y : Int32, y = x31_6_227 + 1 := ⟨_, rfl⟩
                refine lv_iinc (v := v245) (lv' := [(6, .int v245), (7, .int v236), (5, .int v8), (4, .int x31_4_228), (0, .ref a_0), (1, .int i_0), (2, .int i_1), (3, .int i_2)]) hx hb dX11_kinds_118 hl (k := 1) rfl (by rw [ev245]; rfl) (by decide) rfl ?_
                clear hl
                clear ls
                intro ls hl
                have rv245 : mm_rg v245 1 8 := mm_add ev245 q232 mm_k1 (by decide) (by decide)
                have tv245 := mm_addEc ev245 q232 mm_k1 (by decide) (k := 1) (by decide)
                refine lv_goto (tgt := 31) hx hb dX11_kinds_121 (by decide) ?_
                exact ih31 v245 x31_4_228 (mm_wk rv245 (by decide)) (mm_mu hm31 tv245 (by decide) (rv245).2 (by decide)) H locs hP hD hS ls (lv_sub hl [0, 2, 3, 4, 5, 6, 7] rfl)
              · have q246 := mm_ltL (h := 8) (mm_nle c244) w237 h1 (by decide)
                have q247 := mm_ltR (lo := 1) (mm_nle c244) w237 h1 (by decide)
                refine lv_iload hx hb dX11_kinds_98 (lv_at hl 3 rfl) ?_
                refine lv_iconst (v := 1) hx hb dX11_kinds_100 (by decide) ?_
                refine lv_aload_n hx hb dX11_kinds_101 rfl (lv_at hl 4 rfl) ?_
                refine va_get (D := G) (ci := 11) (v := .ref a_3) (C := RX11) (T := TX11) (N := 11) hx hb hts (mm_i inlX11) hown hK.1 hP 0 rfl rfl 2 (by decide) (mm_h hts mm_w24) (fun _ h9 => h9) rfl dX11_kinds_102 ?_
                refine va_get (D := G) (ci := 10) (v := .ref a_12) (C := RX10) (T := TX10) (N := 2) hx hb hts (mm_i inlX10) hown hK.1 hP 1 rfl rfl 0 (by decide) (mm_h hts mm_w199) (fun _ h9 => h9) rfl dX11_kinds_105 ?_
                refine va_get (D := G) (ci := 0) (v := .ref a_14) (C := RX0) (T := TX0) (N := 18) hx hb hts (mm_i inlX0) hown hK.1 hP 2 rfl rfl 8 (by decide) (mm_h hts mm_w574) (fun _ h9 => h9) rfl dX11_kinds_108 ?_
                refine lv_iload hx hb dX11_kinds_111 (lv_at hl 0 rfl) ?_
                refine va_iald hx hb hK.1 hP 3 1 rfl rfl (mm_in q246 (by decide)) dX11_kinds_113 ?_
                refine lv_topi (fun v248 ev248 => ?_)
                have rv248 : mm_rg v248 (-1) 4 := mm_eqv ev248 (h4 _)
                refine lv_ishl hx hb dX11_kinds_114 ?_
                refine lv_topi (fun v249 ev249 => ?_)
                refine lv_ior hx hb dX11_kinds_115 ?_
                refine lv_topi (fun v250 ev250 => ?_)
                refine lv_istore (lv' := [(4, .int v250), (7, .int v236), (6, .int x31_6_227), (5, .int v8), (0, .ref a_0), (1, .int i_0), (2, .int i_1), (3, .int i_2)]) hx hb dX11_kinds_116 hl (by decide) rfl ?_
                clear hl
                clear ls
                intro ls hl
                obtain ⟨v251, ev251⟩ : ∃ y : Int32, y = x31_6_227 + 1 := ⟨_, rfl⟩
                refine lv_iinc (v := v251) (lv' := [(6, .int v251), (4, .int v250), (7, .int v236), (5, .int v8), (0, .ref a_0), (1, .int i_0), (2, .int i_1), (3, .int i_2)]) hx hb dX11_kinds_118 hl (k := 2) rfl (by rw [ev251]; rfl) (by decide) rfl ?_
                clear hl
                clear ls
                intro ls hl
                have rv251 : mm_rg v251 1 8 := mm_add ev251 q232 mm_k1 (by decide) (by decide)
                have tv251 := mm_addEc ev251 q232 mm_k1 (by decide) (k := 1) (by decide)
                refine lv_goto (tgt := 31) hx hb dX11_kinds_121 (by decide) ?_
                exact ih31 v251 v250 (mm_wk rv251 (by decide)) (mm_mu hm31 tv251 (by decide) (rv251).2 (by decide)) H locs hP hD hS ls (lv_sub hl [0, 3, 1, 4, 5, 6, 7] rfl)
      exact L31_228 _ 0 0 (mm_wk mm_k0 (by decide)) (Nat.lt_succ_self _) H locs hP hD hS ls (lv_sub hl [0, 1, 2, 3, 4, 5, 6] rfl)
    · exact mm_eqN c7.symm mm_k0 mm_k1 (by decide)

set_option maxHeartbeats 4000000 in
set_option maxRecDepth 100000 in
theorem K417_X10_leavingWith (l : Launch) (G : va_G) (cy : Nat → ClassId) (sz : Nat) (a_0 : Nat) (i_0 : Int32) (i_1 : Int32) (i_2 : Int32) (i_3 : Int32) (i_4 : Int32) (a_1 : Nat) (a_2 : Nat) (i_5 : Int32) (i_6 : Int32) (i_7 : Int32) (i_8 : Int32) (i_9 : Int32) (i_10 : Int32) (i_11 : Int32) (i_12 : Int32) (a_3 : Nat) (a_4 : Nat) (a_5 : Nat) (a_6 : Nat) (a_7 : Nat) (a_8 : Nat) (a_9 : Nat) (a_10 : Nat) (a_11 : Nat) (a_12 : Nat) (f_0 : Nat → Int32) (f_1 : Nat → Int32) (f_2 : Nat → Int32) (f_3 : Nat → Int32) (f_4 : Nat → Int32) (a_13 : Nat) (a_14 : Nat) (a_15 : Nat) (a_16 : Nat) (a_17 : Nat) (i_13 : Int32) (i_14 : Int32) (i_15 : Int32) (f_5 : Nat → Int32) (a_18 : Nat) (a_19 : Nat) (i_16 : Int32) (i_17 : Int32) (i_18 : Int32) (f_6 : Nat → Int32) (a_20 : Nat) (a_21 : Nat) (i_19 : Int32) (i_20 : Int32) (i_21 : Int32) (f_7 : Nat → Int32) (h0 : mm_rg i_0 0 2) (h1 : mm_rg i_1 0 2147483647) (h2 : mm_rg i_2 0 5) (h3 : mm_rg i_3 0 7) (h4 : mm_rg i_4 0 9) (h5 : mm_rg i_8 0 99) (h6 : mm_rg i_9 0 9) (h7 : mm_ar f_0 (-1) 4) (h8 : mm_ar f_1 0 99) (h9 : mm_ar f_2 0 8) (h10 : mm_ar f_3 0 9) (h11 : mm_ar f_4 0 9) (h12 : mm_rg i_15 (-2147483648) 210) (h13 : mm_ar f_5 0 9) (h14 : mm_rg i_18 (-2147483648) 210) (h15 : mm_ar f_6 0 9) (h16 : mm_rg i_21 (-2147483648) 210) (h17 : mm_ar f_7 0 9)  : mm_CI l yX10_leavingWith (mm_ws yX10_leavingWith cX10_leavingWith 9 (some .int)) ({ frames := 2, cells := 0, slots := 0, locals := 62 } : Room) G cy sz [(a_0, .inr (10, [.ref a_1, .ref a_2])), (a_1, .inr (0, [.int i_5, .int i_6, .int i_7, .int i_8, .int i_9, .int i_10, .int i_11, .int i_12, .ref a_3, .ref a_4, .ref a_5, .ref a_6, .ref a_7, .ref a_8, .ref a_9, .ref a_10, .ref a_11, .ref a_12])), (a_3, .inl (cy 1, 9, .inl f_0)), (a_4, .inl (cy 1, 9, .inl f_1)), (a_7, .inl (cy 1, 6, .inl f_2)), (a_8, .inl (cy 1, 48, .inl f_3)), (a_9, .inl (cy 1, 30, .inl f_4)), (a_2, .inl (cy 5, 3, .inr (.inr (.inr (.inr (va_up (va_up (va_up (fun _ => none) 0 (some a_13)) 1 (some a_14)) 2 (some a_15))))))), (a_13, .inr (1, [.ref a_16, .ref a_17, .int i_13, .int i_14, .int i_15])), (a_16, .inl (cy 1, 2100, .inl f_5)), (a_14, .inr (1, [.ref a_18, .ref a_19, .int i_16, .int i_17, .int i_18])), (a_18, .inl (cy 1, 2100, .inl f_6)), (a_15, .inr (1, [.ref a_20, .ref a_21, .int i_19, .int i_20, .int i_21])), (a_20, .inl (cy 1, 2100, .inl f_7))] [.ref a_0, .int i_0, .int i_1, .int i_2, .int i_3, .int i_4] (fun u : Unit => [(a_0, .inr (10, [.ref a_1, .ref a_2])), (a_1, .inr (0, [.int i_5, .int i_6, .int i_7, .int i_8, .int i_9, .int i_10, .int i_11, .int i_12, .ref a_3, .ref a_4, .ref a_5, .ref a_6, .ref a_7, .ref a_8, .ref a_9, .ref a_10, .ref a_11, .ref a_12])), (a_3, .inl (cy 1, 9, .inl f_0)), (a_4, .inl (cy 1, 9, .inl f_1)), (a_7, .inl (cy 1, 6, .inl f_2)), (a_8, .inl (cy 1, 48, .inl f_3)), (a_9, .inl (cy 1, 30, .inl f_4)), (a_2, .inl (cy 5, 3, .inr (.inr (.inr (.inr (va_up (va_up (va_up (fun _ => none) 0 (some a_13)) 1 (some a_14)) 2 (some a_15))))))), (a_13, .inr (1, [.ref a_16, .ref a_17, .int i_13, .int i_14, .int i_15])), (a_16, .inl (cy 1, 2100, .inl f_5)), (a_14, .inr (1, [.ref a_18, .ref a_19, .int i_16, .int i_17, .int i_18])), (a_18, .inl (cy 1, 2100, .inl f_6)), (a_15, .inr (1, [.ref a_20, .ref a_21, .int i_19, .int i_20, .int i_21])), (a_20, .inl (cy 1, 2100, .inl f_7))]) (fun (r : Int32) (u : Unit) => True) 0 0 := by
  refine mm_begin (lv := [(0, .ref a_0), (1, .int i_0), (2, .int i_1), (3, .int i_2), (4, .int i_3), (5, .int i_4)]) (by decide) (Nat.le_of_ble_eq_true rfl) rfl ?_
  intro p e s m below meth c A ls R args Q H locs hRe hQ hAe hx hb hr hlocks hml hown hnm hts hsz hA hS hP hK hD hZ hl
  have hRf : R.frames = 2 := by rw [hRe]
  have hRl : R.locals = 62 := by rw [hRe]
  have hRc : R.cells = 0 := by rw [hRe]
  have hRs : R.slots = 0 := by rw [hRe]
  refine lv_aload_n hx hb dX10_leavingWith_0 rfl (lv_at hl 0 rfl) ?_
  refine va_get (D := G) (ci := 10) (v := .ref a_1) (C := RX10) (T := TX10) (N := 2) hx hb hts (mm_i inlX10) hown hK.1 hP 0 rfl rfl 0 (by decide) (mm_h hts mm_w87) (fun _ h9 => h9) rfl dX10_leavingWith_1 ?_
  refine va_get (D := G) (ci := 0) (v := .int i_8) (C := RX0) (T := TX0) (N := 18) hx hb hts (mm_i inlX0) hown hK.1 hP 1 rfl rfl 3 (by decide) (mm_h hts mm_w833) (fun _ h9 => h9) rfl dX10_leavingWith_4 ?_
  refine lv_istore (lv' := [(6, .int i_8), (0, .ref a_0), (1, .int i_0), (2, .int i_1), (3, .int i_2), (4, .int i_3), (5, .int i_4)]) hx hb dX10_leavingWith_7 hl (by decide) rfl ?_
  clear hl
  clear ls
  intro ls hl
  refine lv_iconst (v := 0) hx hb dX10_leavingWith_9 (by decide) ?_
  refine lv_istore (lv' := [(7, .int 0), (6, .int i_8), (0, .ref a_0), (1, .int i_0), (2, .int i_1), (3, .int i_2), (4, .int i_3), (5, .int i_4)]) hx hb dX10_leavingWith_10 hl (by decide) rfl ?_
  clear hl
  clear ls
  intro ls hl
  have L12_204 : ∀ (n : Nat) (x12_7_203 : Int32) (x12_6_204 : Int32), mm_rg x12_7_203 0 8 → (8 - x12_7_203.toInt).toNat < n → ∀ (H : Heap) (locs : List Loc), va_P G vwCl [(a_0, .inr (10, [.ref a_1, .ref a_2])), (a_1, .inr (0, [.int i_5, .int i_6, .int i_7, .int i_8, .int i_9, .int i_10, .int i_11, .int i_12, .ref a_3, .ref a_4, .ref a_5, .ref a_6, .ref a_7, .ref a_8, .ref a_9, .ref a_10, .ref a_11, .ref a_12])), (a_3, .inl (cy 1, 9, .inl f_0)), (a_4, .inl (cy 1, 9, .inl f_1)), (a_7, .inl (cy 1, 6, .inl f_2)), (a_8, .inl (cy 1, 48, .inl f_3)), (a_9, .inl (cy 1, 30, .inl f_4)), (a_2, .inl (cy 5, 3, .inr (.inr (.inr (.inr (va_up (va_up (va_up (fun _ => none) 0 (some a_13)) 1 (some a_14)) 2 (some a_15))))))), (a_13, .inr (1, [.ref a_16, .ref a_17, .int i_13, .int i_14, .int i_15])), (a_16, .inl (cy 1, 2100, .inl f_5)), (a_14, .inr (1, [.ref a_18, .ref a_19, .int i_16, .int i_17, .int i_18])), (a_18, .inl (cy 1, 2100, .inl f_6)), (a_15, .inr (1, [.ref a_20, .ref a_21, .int i_19, .int i_20, .int i_21])), (a_20, .inl (cy 1, 2100, .inl f_7))] H → va_D A [(a_0, .inr (10, [.ref a_1, .ref a_2])), (a_1, .inr (0, [.int i_5, .int i_6, .int i_7, .int i_8, .int i_9, .int i_10, .int i_11, .int i_12, .ref a_3, .ref a_4, .ref a_5, .ref a_6, .ref a_7, .ref a_8, .ref a_9, .ref a_10, .ref a_11, .ref a_12])), (a_3, .inl (cy 1, 9, .inl f_0)), (a_4, .inl (cy 1, 9, .inl f_1)), (a_7, .inl (cy 1, 6, .inl f_2)), (a_8, .inl (cy 1, 48, .inl f_3)), (a_9, .inl (cy 1, 30, .inl f_4)), (a_2, .inl (cy 5, 3, .inr (.inr (.inr (.inr (va_up (va_up (va_up (fun _ => none) 0 (some a_13)) 1 (some a_14)) 2 (some a_15))))))), (a_13, .inr (1, [.ref a_16, .ref a_17, .int i_13, .int i_14, .int i_15])), (a_16, .inl (cy 1, 2100, .inl f_5)), (a_14, .inr (1, [.ref a_18, .ref a_19, .int i_16, .int i_17, .int i_18])), (a_18, .inl (cy 1, 2100, .inl f_6)), (a_15, .inr (1, [.ref a_20, .ref a_21, .int i_19, .int i_20, .int i_21])), (a_20, .inl (cy 1, 2100, .inl f_7))] → va_S A s.heap H locs → ∀ (ls : Array Slot), lv_has ls 9 [(7, .int x12_7_203), (6, .int x12_6_204), (0, .ref a_0), (1, .int i_0), (2, .int i_1), (3, .int i_2), (4, .int i_3), (5, .int i_4)] → W p l e R s m args below meth c H locs 0 0 Q (F0 m 12 ls []) := by
    intro n
    induction n with
    | zero => intro x12_7_203 x12_6_204 rx12_7_203 hm; exact absurd hm (Nat.not_lt_zero _)
    | succ n ih12 =>
      intro x12_7_203 x12_6_204 rx12_7_203 hm12 H locs hP hD hS ls hl
      refine lv_iload hx hb dX10_leavingWith_12 (lv_at hl 0 rfl) ?_
      refine lv_aload_n hx hb dX10_leavingWith_14 rfl (lv_at hl 2 rfl) ?_
      refine va_get (D := G) (ci := 10) (v := .ref a_1) (C := RX10) (T := TX10) (N := 2) hx hb hts (mm_i inlX10) hown hK.1 hP 0 rfl rfl 0 (by decide) (mm_h hts mm_w87) (fun _ h9 => h9) rfl dX10_leavingWith_15 ?_
      refine va_get (D := G) (ci := 0) (v := .ref a_7) (C := RX0) (T := TX0) (N := 18) hx hb hts (mm_i inlX0) hown hK.1 hP 1 rfl rfl 12 (by decide) (mm_h hts mm_w838) (fun _ h9 => h9) rfl dX10_leavingWith_18 ?_
      refine lv_iload_n hx hb dX10_leavingWith_21 rfl (lv_at hl 5 rfl) ?_
      refine va_iald hx hb hK.1 hP 4 1 rfl rfl (mm_in h2 (by decide)) dX10_leavingWith_22 ?_
      refine lv_topi (fun v206 ev206 => ?_)
      have rv206 : mm_rg v206 0 8 := mm_eqv ev206 (h9 _)
      refine lv_icmp_ge (tgt := 80) hx hb dX10_leavingWith_23 (by decide) (fun c207 => ?_) (fun c207 => ?_)
      · refine lv_iload hx hb dX10_leavingWith_80 (lv_at hl 1 rfl) ?_
        refine lv_sipush (v := 10000) hx hb dX10_leavingWith_82 (by decide) ?_
        refine lv_irem hx hb dX10_leavingWith_85 (mm_nz mm_k10000 (by decide)) ?_
        refine lv_topi (fun v208 ev208 => ?_)
        subst hAe
        rw [hQ]
        exact W.iret (v := v208) hx hb hr (fun t ht hW => ⟨⟨v208, (), rfl, trivial, by rw [ht]; exact hP, hK.warm hW, hD⟩, hS.F ht⟩) hS.2.2 dX10_leavingWith_86
      · have q209 := mm_ltL (h := 7) (mm_nle c207) rx12_7_203 rv206 (by decide)
        have q210 := mm_ltR (lo := 1) (mm_nle c207) rx12_7_203 rv206 (by decide)
        refine lv_iload hx hb dX10_leavingWith_26 (lv_at hl 1 rfl) ?_
        refine lv_sipush (v := 20000) hx hb dX10_leavingWith_28 (by decide) ?_
        refine lv_icmp_ge (tgt := 80) hx hb dX10_leavingWith_31 (by decide) (fun c211 => ?_) (fun c211 => ?_)
        · have q212 := mm_leR (mm_le c211) mm_k20000 (mm_top x12_6_204)
          refine lv_iload hx hb dX10_leavingWith_80 (lv_at hl 1 rfl) ?_
          refine lv_sipush (v := 10000) hx hb dX10_leavingWith_82 (by decide) ?_
          refine lv_irem hx hb dX10_leavingWith_85 (mm_nz mm_k10000 (by decide)) ?_
          refine lv_topi (fun v213 ev213 => ?_)
          have rv213 : mm_rg v213 0 9999 := mm_rem ev213 q212 mm_k10000 (by decide) (by decide)
          subst hAe
          rw [hQ]
          exact W.iret (v := v213) hx hb hr (fun t ht hW => ⟨⟨v213, (), rfl, trivial, by rw [ht]; exact hP, hK.warm hW, hD⟩, hS.F ht⟩) hS.2.2 dX10_leavingWith_86
        · have q214 := mm_ltL (h := 19999) (mm_nle c211) (mm_top x12_6_204) mm_k20000 (by decide)
          refine lv_iload hx hb dX10_leavingWith_34 (lv_at hl 0 rfl) ?_
          refine lv_iload hx hb dX10_leavingWith_36 (lv_at hl 6 rfl) ?_
          refine lv_icmp_ne (tgt := 46) hx hb dX10_leavingWith_38 (by decide) (fun c215 => ?_) (fun c215 => ?_)
          · refine lv_aload_n hx hb dX10_leavingWith_46 rfl (lv_at hl 2 rfl) ?_
            refine va_get (D := G) (ci := 10) (v := .ref a_1) (C := RX10) (T := TX10) (N := 2) hx hb hts (mm_i inlX10) hown hK.1 hP 0 rfl rfl 0 (by decide) (mm_h hts mm_w87) (fun _ h9 => h9) rfl dX10_leavingWith_47 ?_
            refine lv_iload_n hx hb dX10_leavingWith_50 rfl (lv_at hl 5 rfl) ?_
            refine lv_iload hx hb dX10_leavingWith_51 (lv_at hl 0 rfl) ?_
            refine mm_finir (va_runV (As := [.int i_2, .int x12_7_203]) (rest := []) ⟨hx, hb, hml, hown, hts⟩ (K348_X0_wordAt l G cy H.size a_1 i_2 x12_7_203 i_5 i_6 i_7 i_8 i_9 i_10 i_11 i_12 a_3 a_4 a_5 a_6 a_7 a_8 a_9 a_10 a_11 a_12 f_3 h2 q209 h10) (cwV 2 hts (mm_gV mm_w839 mm_w606 mm_w607 mm_w28 mm_w608) rfl rfl rfl hd_X0_wordAt ⟨by rw [hRf]; exact Nat.le_of_ble_eq_true rfl, by rw [hRl]; exact Nat.le_of_ble_eq_true rfl⟩) (mm_preV hK hZ hS hA hP hD [1, 5] rfl rfl 1 rfl rfl rfl) rfl rfl hl.1 rfl (lv_room (Nat.le_of_ble_eq_true rfl)) dX10_leavingWith_53 ⟨by rw [hRc]; exact Nat.le_of_ble_eq_true rfl, by rw [hRs]; exact Nat.le_of_ble_eq_true rfl⟩) hP hD hS hA [1, 5] rfl (fun _ => rfl) ?_
            clear hP hD hS
            clear H locs
            intro v216 _u H locs hw hP hD hS
            have w217 := hw
            refine lv_istore (lv' := [(8, .int v216), (7, .int x12_7_203), (6, .int x12_6_204), (0, .ref a_0), (1, .int i_0), (2, .int i_1), (3, .int i_2), (4, .int i_3), (5, .int i_4)]) hx hb dX10_leavingWith_56 hl (by decide) rfl ?_
            clear hl
            clear ls
            intro ls hl
            refine lv_aload_n hx hb dX10_leavingWith_58 rfl (lv_at hl 3 rfl) ?_
            refine lv_iload hx hb dX10_leavingWith_59 (lv_at hl 2 rfl) ?_
            refine lv_aload_n hx hb dX10_leavingWith_61 rfl (lv_at hl 3 rfl) ?_
            refine lv_iload_n hx hb dX10_leavingWith_62 rfl (lv_at hl 4 rfl) ?_
            refine lv_iload_n hx hb dX10_leavingWith_63 rfl (lv_at hl 5 rfl) ?_
            refine lv_iload hx hb dX10_leavingWith_64 (lv_at hl 0 rfl) ?_
            refine mm_finir (va_runV (As := [.int i_0, .int i_1, .int v216]) (rest := [.int x12_6_204, .ref a_0]) ⟨hx, hb, hml, hown, hts⟩ (K355_X10_meaning l G cy H.size a_0 i_0 i_1 v216 a_1 a_2 i_5 i_6 i_7 i_8 i_9 i_10 i_11 i_12 a_3 a_4 a_5 a_6 a_7 a_8 a_9 a_10 a_11 a_12 f_4 a_13 a_14 a_15 a_16 a_17 i_13 i_14 i_15 f_5 a_18 a_19 i_16 i_17 i_18 f_6 a_20 a_21 i_19 i_20 i_21 f_7 h0 h1 w217 h11 h12 h13 h14 h15 h16 h17) (cwV 3 hts (mm_gV mm_w730 mm_w666 mm_w667 mm_w23 mm_w668) rfl rfl rfl hd_X10_meaning ⟨by rw [hRf]; exact Nat.le_of_ble_eq_true rfl, by rw [hRl]; exact Nat.le_of_ble_eq_true rfl⟩) (mm_preV hK hZ hS hA hP hD [0, 1, 6, 7, 8, 9, 10, 11, 12, 13] rfl rfl 0 rfl rfl rfl) rfl rfl hl.1 rfl (lv_room (Nat.le_of_ble_eq_true rfl)) dX10_leavingWith_66 ⟨by rw [hRc]; exact Nat.le_of_ble_eq_true rfl, by rw [hRs]; exact Nat.le_of_ble_eq_true rfl⟩) hP hD hS hA [0, 1, 6, 7, 8, 9, 10, 11, 12, 13] rfl (fun _ => rfl) ?_
            clear hP hD hS
            clear H locs
            intro v218 _u H locs hw hP hD hS
            have w219 := hw
            refine mm_finir (va_runV (As := [.int x12_6_204, .int v218]) (rest := []) ⟨hx, hb, hml, hown, hts⟩ (K372_X10_after l G cy H.size a_0 x12_6_204 v218 a_1 a_2 i_5 i_6 i_7 i_8 i_9 i_10 i_11 i_12 a_3 a_4 a_5 a_6 a_7 a_8 a_9 a_10 a_11 a_12 f_0 f_1 w219 h6 h7 h8) (cwV 2 hts (mm_gV mm_w840 mm_w841 mm_w842 mm_w23 mm_w843) rfl rfl rfl hd_X10_after ⟨by rw [hRf]; exact Nat.le_of_ble_eq_true rfl, by rw [hRl]; exact Nat.le_of_ble_eq_true rfl⟩) (mm_preV hK hZ hS hA hP hD [0, 1, 2, 3] rfl rfl 0 rfl rfl rfl) rfl rfl hl.1 rfl (lv_room (Nat.le_of_ble_eq_true rfl)) dX10_leavingWith_69 ⟨by rw [hRc]; exact Nat.le_of_ble_eq_true rfl, by rw [hRs]; exact Nat.le_of_ble_eq_true rfl⟩) hP hD hS hA [0, 1, 2, 3] rfl (fun _ => rfl) ?_
            clear hP hD hS
            clear H locs
            intro v220 _u H locs hw hP hD hS
            refine lv_istore (lv' := [(6, .int v220), (8, .int v216), (7, .int x12_7_203), (0, .ref a_0), (1, .int i_0), (2, .int i_1), (3, .int i_2), (4, .int i_3), (5, .int i_4)]) hx hb dX10_leavingWith_72 hl (by decide) rfl ?_
            clear hl
            clear ls
            intro ls hl
            obtain ⟨v221, ev221⟩ : ∃ y : Int32, y = x12_7_203 + 1 := ⟨_, rfl⟩
            refine lv_iinc (v := v221) (lv' := [(7, .int v221), (6, .int v220), (8, .int v216), (0, .ref a_0), (1, .int i_0), (2, .int i_1), (3, .int i_2), (4, .int i_3), (5, .int i_4)]) hx hb dX10_leavingWith_74 hl (k := 2) rfl (by rw [ev221]; rfl) (by decide) rfl ?_
            clear hl
            clear ls
            intro ls hl
            have rv221 : mm_rg v221 1 8 := mm_add ev221 q209 mm_k1 (by decide) (by decide)
            have tv221 := mm_addEc ev221 q209 mm_k1 (by decide) (k := 1) (by decide)
            refine lv_goto (tgt := 12) hx hb dX10_leavingWith_77 (by decide) ?_
            exact ih12 v221 v220 (mm_wk rv221 (by decide)) (mm_mu hm12 tv221 (by decide) (rv221).2 (by decide)) H locs hP hD hS ls (lv_sub hl [0, 1, 3, 4, 5, 6, 7, 8] rfl)
          · refine lv_iload hx hb dX10_leavingWith_41 (lv_at hl 7 rfl) ?_
            refine lv_goto (tgt := 56) hx hb dX10_leavingWith_43 (by decide) ?_
            refine lv_istore (lv' := [(8, .int i_4), (7, .int x12_7_203), (6, .int x12_6_204), (0, .ref a_0), (1, .int i_0), (2, .int i_1), (3, .int i_2), (4, .int i_3), (5, .int i_4)]) hx hb dX10_leavingWith_56 hl (by decide) rfl ?_
            clear hl
            clear ls
            intro ls hl
            refine lv_aload_n hx hb dX10_leavingWith_58 rfl (lv_at hl 3 rfl) ?_
            refine lv_iload hx hb dX10_leavingWith_59 (lv_at hl 2 rfl) ?_
            refine lv_aload_n hx hb dX10_leavingWith_61 rfl (lv_at hl 3 rfl) ?_
            refine lv_iload_n hx hb dX10_leavingWith_62 rfl (lv_at hl 4 rfl) ?_
            refine lv_iload_n hx hb dX10_leavingWith_63 rfl (lv_at hl 5 rfl) ?_
            refine lv_iload hx hb dX10_leavingWith_64 (lv_at hl 0 rfl) ?_
            refine mm_finir (va_runV (As := [.int i_0, .int i_1, .int i_4]) (rest := [.int x12_6_204, .ref a_0]) ⟨hx, hb, hml, hown, hts⟩ (K355_X10_meaning l G cy H.size a_0 i_0 i_1 i_4 a_1 a_2 i_5 i_6 i_7 i_8 i_9 i_10 i_11 i_12 a_3 a_4 a_5 a_6 a_7 a_8 a_9 a_10 a_11 a_12 f_4 a_13 a_14 a_15 a_16 a_17 i_13 i_14 i_15 f_5 a_18 a_19 i_16 i_17 i_18 f_6 a_20 a_21 i_19 i_20 i_21 f_7 h0 h1 h4 h11 h12 h13 h14 h15 h16 h17) (cwV 3 hts (mm_gV mm_w730 mm_w666 mm_w667 mm_w23 mm_w668) rfl rfl rfl hd_X10_meaning ⟨by rw [hRf]; exact Nat.le_of_ble_eq_true rfl, by rw [hRl]; exact Nat.le_of_ble_eq_true rfl⟩) (mm_preV hK hZ hS hA hP hD [0, 1, 6, 7, 8, 9, 10, 11, 12, 13] rfl rfl 0 rfl rfl rfl) rfl rfl hl.1 rfl (lv_room (Nat.le_of_ble_eq_true rfl)) dX10_leavingWith_66 ⟨by rw [hRc]; exact Nat.le_of_ble_eq_true rfl, by rw [hRs]; exact Nat.le_of_ble_eq_true rfl⟩) hP hD hS hA [0, 1, 6, 7, 8, 9, 10, 11, 12, 13] rfl (fun _ => rfl) ?_
            clear hP hD hS
            clear H locs
            intro v222 _u H locs hw hP hD hS
            have w223 := hw
            refine mm_finir (va_runV (As := [.int x12_6_204, .int v222]) (rest := []) ⟨hx, hb, hml, hown, hts⟩ (K372_X10_after l G cy H.size a_0 x12_6_204 v222 a_1 a_2 i_5 i_6 i_7 i_8 i_9 i_10 i_11 i_12 a_3 a_4 a_5 a_6 a_7 a_8 a_9 a_10 a_11 a_12 f_0 f_1 w223 h6 h7 h8) (cwV 2 hts (mm_gV mm_w840 mm_w841 mm_w842 mm_w23 mm_w843) rfl rfl rfl hd_X10_after ⟨by rw [hRf]; exact Nat.le_of_ble_eq_true rfl, by rw [hRl]; exact Nat.le_of_ble_eq_true rfl⟩) (mm_preV hK hZ hS hA hP hD [0, 1, 2, 3] rfl rfl 0 rfl rfl rfl) rfl rfl hl.1 rfl (lv_room (Nat.le_of_ble_eq_true rfl)) dX10_leavingWith_69 ⟨by rw [hRc]; exact Nat.le_of_ble_eq_true rfl, by rw [hRs]; exact Nat.le_of_ble_eq_true rfl⟩) hP hD hS hA [0, 1, 2, 3] rfl (fun _ => rfl) ?_
            clear hP hD hS
            clear H locs
            intro v224 _u H locs hw hP hD hS
            refine lv_istore (lv' := [(6, .int v224), (8, .int i_4), (7, .int x12_7_203), (0, .ref a_0), (1, .int i_0), (2, .int i_1), (3, .int i_2), (4, .int i_3), (5, .int i_4)]) hx hb dX10_leavingWith_72 hl (by decide) rfl ?_
            clear hl
            clear ls
            intro ls hl
            obtain ⟨v225, ev225⟩ : ∃ y : Int32, y = x12_7_203 + 1 := ⟨_, rfl⟩
            refine lv_iinc (v := v225) (lv' := [(7, .int v225), (6, .int v224), (8, .int i_4), (0, .ref a_0), (1, .int i_0), (2, .int i_1), (3, .int i_2), (4, .int i_3), (5, .int i_4)]) hx hb dX10_leavingWith_74 hl (k := 2) rfl (by rw [ev225]; rfl) (by decide) rfl ?_
            clear hl
            clear ls
            intro ls hl
            have rv225 : mm_rg v225 1 8 := mm_add ev225 q209 mm_k1 (by decide) (by decide)
            have tv225 := mm_addEc ev225 q209 mm_k1 (by decide) (k := 1) (by decide)
            refine lv_goto (tgt := 12) hx hb dX10_leavingWith_77 (by decide) ?_
            exact ih12 v225 v224 (mm_wk rv225 (by decide)) (mm_mu hm12 tv225 (by decide) (rv225).2 (by decide)) H locs hP hD hS ls (lv_sub hl [0, 1, 3, 4, 5, 6, 7, 8] rfl)
  exact L12_204 _ 0 i_8 (mm_wk mm_k0 (by decide)) (Nat.lt_succ_self _) H locs hP hD hS ls (lv_sub hl [0, 1, 2, 3, 4, 5, 6, 7] rfl)

set_option maxHeartbeats 4000000 in
set_option maxRecDepth 100000 in
theorem K418_X11_better (l : Launch) (G : va_G) (cy : Nat → ClassId) (sz : Nat) (a_0 : Nat) (i_0 : Int32) (i_1 : Int32) (i_2 : Int32) (a_1 : Nat) (a_2 : Nat) (a_3 : Nat) (a_4 : Nat) (a_5 : Nat) (a_6 : Nat) (a_7 : Nat) (a_8 : Nat) (a_9 : Nat) (a_10 : Nat) (a_11 : Nat) (a_12 : Nat) (a_13 : Nat) (i_3 : Int32) (i_4 : Int32) (i_5 : Int32) (i_6 : Int32) (i_7 : Int32) (i_8 : Int32) (i_9 : Int32) (i_10 : Int32) (a_14 : Nat) (a_15 : Nat) (a_16 : Nat) (a_17 : Nat) (a_18 : Nat) (a_19 : Nat) (a_20 : Nat) (a_21 : Nat) (a_22 : Nat) (a_23 : Nat) (f_0 : Nat → Int32) (f_1 : Nat → Int32) (f_2 : Nat → Int32) (f_3 : Nat → Int32) (f_4 : Nat → Int32) (a_24 : Nat) (a_25 : Nat) (a_26 : Nat) (a_27 : Nat) (a_28 : Nat) (i_11 : Int32) (i_12 : Int32) (i_13 : Int32) (f_5 : Nat → Int32) (a_29 : Nat) (a_30 : Nat) (i_14 : Int32) (i_15 : Int32) (i_16 : Int32) (f_6 : Nat → Int32) (a_31 : Nat) (a_32 : Nat) (i_17 : Int32) (i_18 : Int32) (i_19 : Int32) (f_7 : Nat → Int32) (h0 : mm_rg i_6 0 99) (h1 : mm_rg i_7 0 9) (h2 : mm_rg i_8 0 3) (h3 : mm_rg i_9 0 6) (h4 : mm_ar f_0 (-1) 4) (h5 : mm_ar f_1 0 99) (h6 : mm_ar f_2 0 8) (h7 : mm_ar f_3 0 9) (h8 : mm_ar f_4 0 9) (h9 : mm_rg i_13 (-2147483648) 210) (h10 : mm_ar f_5 0 9) (h11 : mm_rg i_16 (-2147483648) 210) (h12 : mm_ar f_6 0 9) (h13 : mm_rg i_19 (-2147483648) 210) (h14 : mm_ar f_7 0 9)  : mm_CI l yX11_better (mm_ws yX11_better cX11_better 10 (some .int)) ({ frames := 4, cells := 0, slots := 0, locals := 111 } : Room) G cy sz [(a_0, .inr (11, [.ref a_1, .ref a_2, .ref a_3, .ref a_4, .ref a_5, .ref a_6, .ref a_7, .ref a_8, .ref a_9, .ref a_10, .ref a_11])), (a_3, .inr (10, [.ref a_12, .ref a_13])), (a_12, .inr (0, [.int i_3, .int i_4, .int i_5, .int i_6, .int i_7, .int i_8, .int i_9, .int i_10, .ref a_14, .ref a_15, .ref a_16, .ref a_17, .ref a_18, .ref a_19, .ref a_20, .ref a_21, .ref a_22, .ref a_23])), (a_14, .inl (cy 1, 9, .inl f_0)), (a_15, .inl (cy 1, 9, .inl f_1)), (a_18, .inl (cy 1, 6, .inl f_2)), (a_19, .inl (cy 1, 48, .inl f_3)), (a_20, .inl (cy 1, 30, .inl f_4)), (a_13, .inl (cy 5, 3, .inr (.inr (.inr (.inr (va_up (va_up (va_up (fun _ => none) 0 (some a_24)) 1 (some a_25)) 2 (some a_26))))))), (a_24, .inr (1, [.ref a_27, .ref a_28, .int i_11, .int i_12, .int i_13])), (a_27, .inl (cy 1, 2100, .inl f_5)), (a_25, .inr (1, [.ref a_29, .ref a_30, .int i_14, .int i_15, .int i_16])), (a_29, .inl (cy 1, 2100, .inl f_6)), (a_26, .inr (1, [.ref a_31, .ref a_32, .int i_17, .int i_18, .int i_19])), (a_31, .inl (cy 1, 2100, .inl f_7))] [.ref a_0, .int i_0, .int i_1, .int i_2] (fun u : Unit => [(a_0, .inr (11, [.ref a_1, .ref a_2, .ref a_3, .ref a_4, .ref a_5, .ref a_6, .ref a_7, .ref a_8, .ref a_9, .ref a_10, .ref a_11])), (a_3, .inr (10, [.ref a_12, .ref a_13])), (a_12, .inr (0, [.int i_3, .int i_4, .int i_5, .int i_6, .int i_7, .int i_8, .int i_9, .int i_10, .ref a_14, .ref a_15, .ref a_16, .ref a_17, .ref a_18, .ref a_19, .ref a_20, .ref a_21, .ref a_22, .ref a_23])), (a_14, .inl (cy 1, 9, .inl f_0)), (a_15, .inl (cy 1, 9, .inl f_1)), (a_18, .inl (cy 1, 6, .inl f_2)), (a_19, .inl (cy 1, 48, .inl f_3)), (a_20, .inl (cy 1, 30, .inl f_4)), (a_13, .inl (cy 5, 3, .inr (.inr (.inr (.inr (va_up (va_up (va_up (fun _ => none) 0 (some a_24)) 1 (some a_25)) 2 (some a_26))))))), (a_24, .inr (1, [.ref a_27, .ref a_28, .int i_11, .int i_12, .int i_13])), (a_27, .inl (cy 1, 2100, .inl f_5)), (a_25, .inr (1, [.ref a_29, .ref a_30, .int i_14, .int i_15, .int i_16])), (a_29, .inl (cy 1, 2100, .inl f_6)), (a_26, .inr (1, [.ref a_31, .ref a_32, .int i_17, .int i_18, .int i_19])), (a_31, .inl (cy 1, 2100, .inl f_7))]) (fun (r : Int32) (u : Unit) => mm_rg r (-2) 209) 0 0 := by
  refine mm_begin (lv := [(0, .ref a_0), (1, .int i_0), (2, .int i_1), (3, .int i_2)]) (by decide) (Nat.le_of_ble_eq_true rfl) rfl ?_
  intro p e s m below meth c A ls R args Q H locs hRe hQ hAe hx hb hr hlocks hml hown hnm hts hsz hA hS hP hK hD hZ hl
  have hRf : R.frames = 4 := by rw [hRe]
  have hRl : R.locals = 111 := by rw [hRe]
  have hRc : R.cells = 0 := by rw [hRe]
  have hRs : R.slots = 0 := by rw [hRe]
  refine lv_aload_n hx hb dX11_better_0 rfl (lv_at hl 0 rfl) ?_
  refine lv_iload_n hx hb dX11_better_1 rfl (lv_at hl 1 rfl) ?_
  refine lv_iload_n hx hb dX11_better_2 rfl (lv_at hl 2 rfl) ?_
  refine lv_iload_n hx hb dX11_better_3 rfl (lv_at hl 3 rfl) ?_
  refine mm_finir (va_runV (As := [.int i_0, .int i_1, .int i_2]) (rest := []) ⟨hx, hb, hml, hown, hts⟩ (K371_X11_isReading l G cy H.size a_0 i_0 i_1 i_2 a_1 a_2 a_3 a_4 a_5 a_6 a_7 a_8 a_9 a_10 a_11 a_12 a_13 i_3 i_4 i_5 i_6 i_7 i_8 i_9 i_10 a_14 a_15 a_16 a_17 a_18 a_19 a_20 a_21 a_22 a_23 h2 h3) (cwV 3 hts (mm_gV mm_w825 mm_w826 mm_w827 mm_w2 mm_w828) rfl rfl rfl hd_X11_isReading ⟨by rw [hRf]; exact Nat.le_of_ble_eq_true rfl, by rw [hRl]; exact Nat.le_of_ble_eq_true rfl⟩) (mm_preV hK hZ hS hA hP hD [0, 1, 2] rfl rfl 0 rfl rfl rfl) rfl rfl hl.1 rfl (lv_room (Nat.le_of_ble_eq_true rfl)) dX11_better_4 ⟨by rw [hRc]; exact Nat.le_of_ble_eq_true rfl, by rw [hRs]; exact Nat.le_of_ble_eq_true rfl⟩) hP hD hS hA [0, 1, 2] rfl (fun _ => rfl) ?_
  clear hP hD hS
  clear H locs
  intro v1 _u H locs hw hP hD hS
  rcases hw with rfl | ⟨rfl, w2, w3, w4⟩
  · refine lv_if_ne (tgt := 13) hx hb dX11_better_7 (by decide) (fun c5 => ?_) (fun c5 => ?_)
    · have q6 := mm_neL (lo := 1) (mm_ne c5) mm_k0 mm_k0 (by decide) (by decide)
      exact mm_no q6 (by decide)
    · refine lv_bipush (v := (-2)) hx hb dX11_better_10 (by decide) ?_
      subst hAe
      rw [hQ]
      exact W.iret (v := (-2)) hx hb hr (fun t ht hW => ⟨⟨(-2), (), rfl, (mm_wk mm_km2 (by decide)), by rw [ht]; exact hP, hK.warm hW, hD⟩, hS.F ht⟩) hS.2.2 dX11_better_12
  · refine lv_if_ne (tgt := 13) hx hb dX11_better_7 (by decide) (fun c7 => ?_) (fun c7 => ?_)
    · refine lv_iconst (v := (-1)) hx hb dX11_better_13 (by decide) ?_
      refine lv_istore (lv' := [(4, .int (-1)), (0, .ref a_0), (1, .int i_0), (2, .int i_1), (3, .int i_2)]) hx hb dX11_better_14 hl (by decide) rfl ?_
      clear hl
      clear ls
      intro ls hl
      refine lv_aload_n hx hb dX11_better_16 rfl (lv_at hl 1 rfl) ?_
      refine va_get (D := G) (ci := 11) (v := .ref a_3) (C := RX11) (T := TX11) (N := 11) hx hb hts (mm_i inlX11) hown hK.1 hP 0 rfl rfl 2 (by decide) (mm_h hts mm_w24) (fun _ h9 => h9) rfl dX11_better_17 ?_
      refine lv_iload_n hx hb dX11_better_20 rfl (lv_at hl 2 rfl) ?_
      refine lv_iload_n hx hb dX11_better_21 rfl (lv_at hl 3 rfl) ?_
      refine lv_iload_n hx hb dX11_better_22 rfl (lv_at hl 4 rfl) ?_
      refine mm_finir (va_runV (As := [.int i_0, .int i_1, .int i_2]) (rest := []) ⟨hx, hb, hml, hown, hts⟩ (K374_X10_leaving l G cy H.size a_3 i_0 i_1 i_2 a_12 a_13 i_3 i_4 i_5 i_6 i_7 i_8 i_9 i_10 a_14 a_15 a_16 a_17 a_18 a_19 a_20 a_21 a_22 a_23 f_0 f_1 f_2 f_3 f_4 a_24 a_25 a_26 a_27 a_28 i_11 i_12 i_13 f_5 a_29 a_30 i_14 i_15 i_16 f_6 a_31 a_32 i_17 i_18 i_19 f_7 w2 (mm_wk w3 (by decide)) w4 h0 h1 h4 h5 h6 h7 h8 h9 h10 h11 h12 h13 h14) (cwV 3 hts (mm_gV mm_w829 mm_w830 mm_w831 mm_w23 mm_w832) rfl rfl rfl hd_X10_leaving ⟨by rw [hRf]; exact Nat.le_of_ble_eq_true rfl, by rw [hRl]; exact Nat.le_of_ble_eq_true rfl⟩) (mm_preV hK hZ hS hA hP hD [1, 2, 3, 4, 5, 6, 7, 8, 9, 10, 11, 12, 13, 14] rfl rfl 1 rfl rfl rfl) rfl rfl hl.1 rfl (lv_room (Nat.le_of_ble_eq_true rfl)) dX11_better_23 ⟨by rw [hRc]; exact Nat.le_of_ble_eq_true rfl, by rw [hRs]; exact Nat.le_of_ble_eq_true rfl⟩) hP hD hS hA [1, 2, 3, 4, 5, 6, 7, 8, 9, 10, 11, 12, 13, 14] rfl (fun _ => rfl) ?_
      clear hP hD hS
      clear H locs
      intro v8 _u H locs hw hP hD hS
      refine lv_istore (lv' := [(5, .int v8), (4, .int (-1)), (0, .ref a_0), (1, .int i_0), (2, .int i_1), (3, .int i_2)]) hx hb dX11_better_26 hl (by decide) rfl ?_
      clear hl
      clear ls
      intro ls hl
      refine lv_aload_n hx hb dX11_better_28 rfl (lv_at hl 2 rfl) ?_
      refine va_get (D := G) (ci := 11) (v := .ref a_3) (C := RX11) (T := TX11) (N := 11) hx hb hts (mm_i inlX11) hown hK.1 hP 0 rfl rfl 2 (by decide) (mm_h hts mm_w24) (fun _ h9 => h9) rfl dX11_better_29 ?_
      refine va_get (D := G) (ci := 10) (v := .ref a_12) (C := RX10) (T := TX10) (N := 2) hx hb hts (mm_i inlX10) hown hK.1 hP 1 rfl rfl 0 (by decide) (mm_h hts mm_w199) (fun _ h9 => h9) rfl dX11_better_32 ?_
      refine mm_finir (va_runV (As := []) (rest := []) ⟨hx, hb, hml, hown, hts⟩ (K107_X0_wordCount l G cy H.size a_12 i_3 i_4 i_5 i_6 i_7 i_8 i_9 i_10 a_14 a_15 a_16 a_17 a_18 a_19 a_20 a_21 a_22 a_23 h1) (cwV 0 hts (mm_gV mm_w635 mm_w349 mm_w350 mm_w28 mm_w351) rfl rfl rfl hd_X0_wordCount ⟨by rw [hRf]; exact Nat.le_of_ble_eq_true rfl, by rw [hRl]; exact Nat.le_of_ble_eq_true rfl⟩) (mm_preV hK hZ hS hA hP hD [2] rfl rfl 2 rfl rfl rfl) rfl rfl hl.1 rfl (lv_room (Nat.le_of_ble_eq_true rfl)) dX11_better_35 ⟨by rw [hRc]; exact Nat.le_of_ble_eq_true rfl, by rw [hRs]; exact Nat.le_of_ble_eq_true rfl⟩) hP hD hS hA [2] rfl (fun _ => rfl) ?_
      clear hP hD hS
      clear H locs
      intro v9 _u H locs hw hP hD hS
      have w10 := hw
      refine lv_istore (lv' := [(6, .int v9), (5, .int v8), (4, .int (-1)), (0, .ref a_0), (1, .int i_0), (2, .int i_1), (3, .int i_2)]) hx hb dX11_better_38 hl (by decide) rfl ?_
      clear hl
      clear ls
      intro ls hl
      refine lv_iconst (v := 0) hx hb dX11_better_40 (by decide) ?_
      refine lv_istore (lv' := [(7, .int 0), (6, .int v9), (5, .int v8), (4, .int (-1)), (0, .ref a_0), (1, .int i_0), (2, .int i_1), (3, .int i_2)]) hx hb dX11_better_41 hl (by decide) rfl ?_
      clear hl
      clear ls
      intro ls hl
      have L43_1582 : ∀ (n : Nat) (x43_7_1580 : Int32) (x43_5_1581 : Int32) (x43_4_1582 : Int32), mm_rg x43_7_1580 0 8 → mm_rg x43_4_1582 (-1) 209 → (8 - x43_7_1580.toInt).toNat < n → ∀ (H : Heap) (locs : List Loc), va_P G vwCl [(a_0, .inr (11, [.ref a_1, .ref a_2, .ref a_3, .ref a_4, .ref a_5, .ref a_6, .ref a_7, .ref a_8, .ref a_9, .ref a_10, .ref a_11])), (a_3, .inr (10, [.ref a_12, .ref a_13])), (a_12, .inr (0, [.int i_3, .int i_4, .int i_5, .int i_6, .int i_7, .int i_8, .int i_9, .int i_10, .ref a_14, .ref a_15, .ref a_16, .ref a_17, .ref a_18, .ref a_19, .ref a_20, .ref a_21, .ref a_22, .ref a_23])), (a_14, .inl (cy 1, 9, .inl f_0)), (a_15, .inl (cy 1, 9, .inl f_1)), (a_18, .inl (cy 1, 6, .inl f_2)), (a_19, .inl (cy 1, 48, .inl f_3)), (a_20, .inl (cy 1, 30, .inl f_4)), (a_13, .inl (cy 5, 3, .inr (.inr (.inr (.inr (va_up (va_up (va_up (fun _ => none) 0 (some a_24)) 1 (some a_25)) 2 (some a_26))))))), (a_24, .inr (1, [.ref a_27, .ref a_28, .int i_11, .int i_12, .int i_13])), (a_27, .inl (cy 1, 2100, .inl f_5)), (a_25, .inr (1, [.ref a_29, .ref a_30, .int i_14, .int i_15, .int i_16])), (a_29, .inl (cy 1, 2100, .inl f_6)), (a_26, .inr (1, [.ref a_31, .ref a_32, .int i_17, .int i_18, .int i_19])), (a_31, .inl (cy 1, 2100, .inl f_7))] H → va_D A [(a_0, .inr (11, [.ref a_1, .ref a_2, .ref a_3, .ref a_4, .ref a_5, .ref a_6, .ref a_7, .ref a_8, .ref a_9, .ref a_10, .ref a_11])), (a_3, .inr (10, [.ref a_12, .ref a_13])), (a_12, .inr (0, [.int i_3, .int i_4, .int i_5, .int i_6, .int i_7, .int i_8, .int i_9, .int i_10, .ref a_14, .ref a_15, .ref a_16, .ref a_17, .ref a_18, .ref a_19, .ref a_20, .ref a_21, .ref a_22, .ref a_23])), (a_14, .inl (cy 1, 9, .inl f_0)), (a_15, .inl (cy 1, 9, .inl f_1)), (a_18, .inl (cy 1, 6, .inl f_2)), (a_19, .inl (cy 1, 48, .inl f_3)), (a_20, .inl (cy 1, 30, .inl f_4)), (a_13, .inl (cy 5, 3, .inr (.inr (.inr (.inr (va_up (va_up (va_up (fun _ => none) 0 (some a_24)) 1 (some a_25)) 2 (some a_26))))))), (a_24, .inr (1, [.ref a_27, .ref a_28, .int i_11, .int i_12, .int i_13])), (a_27, .inl (cy 1, 2100, .inl f_5)), (a_25, .inr (1, [.ref a_29, .ref a_30, .int i_14, .int i_15, .int i_16])), (a_29, .inl (cy 1, 2100, .inl f_6)), (a_26, .inr (1, [.ref a_31, .ref a_32, .int i_17, .int i_18, .int i_19])), (a_31, .inl (cy 1, 2100, .inl f_7))] → va_S A s.heap H locs → ∀ (ls : Array Slot), lv_has ls 10 [(7, .int x43_7_1580), (6, .int v9), (5, .int x43_5_1581), (4, .int x43_4_1582), (0, .ref a_0), (1, .int i_0), (2, .int i_1), (3, .int i_2)] → W p l e R s m args below meth c H locs 0 0 Q (F0 m 43 ls []) := by
        intro n
        induction n with
        | zero => intro x43_7_1580 x43_5_1581 x43_4_1582 rx43_7_1580 rx43_4_1582 hm; exact absurd hm (Nat.not_lt_zero _)
        | succ n ih43 =>
          intro x43_7_1580 x43_5_1581 x43_4_1582 rx43_7_1580 rx43_4_1582 hm43 H locs hP hD hS ls hl
          refine lv_iload hx hb dX11_better_43 (lv_at hl 0 rfl) ?_
          refine lv_aload_n hx hb dX11_better_45 rfl (lv_at hl 4 rfl) ?_
          refine va_get (D := G) (ci := 11) (v := .ref a_3) (C := RX11) (T := TX11) (N := 11) hx hb hts (mm_i inlX11) hown hK.1 hP 0 rfl rfl 2 (by decide) (mm_h hts mm_w24) (fun _ h9 => h9) rfl dX11_better_46 ?_
          refine va_get (D := G) (ci := 10) (v := .ref a_12) (C := RX10) (T := TX10) (N := 2) hx hb hts (mm_i inlX10) hown hK.1 hP 1 rfl rfl 0 (by decide) (mm_h hts mm_w199) (fun _ h9 => h9) rfl dX11_better_49 ?_
          refine va_get (D := G) (ci := 0) (v := .ref a_18) (C := RX0) (T := TX0) (N := 18) hx hb hts (mm_i inlX0) hown hK.1 hP 2 rfl rfl 12 (by decide) (mm_h hts mm_w599) (fun _ h9 => h9) rfl dX11_better_52 ?_
          refine lv_iload_n hx hb dX11_better_55 rfl (lv_at hl 7 rfl) ?_
          refine va_iald hx hb hK.1 hP 5 1 rfl rfl (mm_in w4 (by decide)) dX11_better_56 ?_
          refine lv_topi (fun v1584 ev1584 => ?_)
          have rv1584 : mm_rg v1584 0 8 := mm_eqv ev1584 (h6 _)
          refine lv_icmp_ge (tgt := 119) hx hb dX11_better_57 (by decide) (fun c1585 => ?_) (fun c1585 => ?_)
          · refine lv_iload hx hb dX11_better_119 (lv_at hl 3 rfl) ?_
            subst hAe
            rw [hQ]
            exact W.iret (v := x43_4_1582) hx hb hr (fun t ht hW => ⟨⟨x43_4_1582, (), rfl, (mm_wk rx43_4_1582 (by decide)), by rw [ht]; exact hP, hK.warm hW, hD⟩, hS.F ht⟩) hS.2.2 dX11_better_121
          · have q1586 := mm_ltL (h := 7) (mm_nle c1585) rx43_7_1580 rv1584 (by decide)
            have q1587 := mm_ltR (lo := 1) (mm_nle c1585) rx43_7_1580 rv1584 (by decide)
            refine lv_iconst (v := 0) hx hb dX11_better_60 (by decide) ?_
            refine lv_istore (lv' := [(8, .int 0), (7, .int x43_7_1580), (6, .int v9), (5, .int x43_5_1581), (4, .int x43_4_1582), (0, .ref a_0), (1, .int i_0), (2, .int i_1), (3, .int i_2)]) hx hb dX11_better_61 hl (by decide) rfl ?_
            clear hl
            clear ls
            intro ls hl
            have L63_1728 : ∀ (n : Nat) (x63_8_1726 : Int32) (x63_5_1727 : Int32) (x63_4_1728 : Int32), mm_rg x63_8_1726 0 10 → mm_rg x63_4_1728 (-1) 209 → (10 - x63_8_1726.toInt).toNat < n → ∀ (H : Heap) (locs : List Loc), va_P G vwCl [(a_0, .inr (11, [.ref a_1, .ref a_2, .ref a_3, .ref a_4, .ref a_5, .ref a_6, .ref a_7, .ref a_8, .ref a_9, .ref a_10, .ref a_11])), (a_3, .inr (10, [.ref a_12, .ref a_13])), (a_12, .inr (0, [.int i_3, .int i_4, .int i_5, .int i_6, .int i_7, .int i_8, .int i_9, .int i_10, .ref a_14, .ref a_15, .ref a_16, .ref a_17, .ref a_18, .ref a_19, .ref a_20, .ref a_21, .ref a_22, .ref a_23])), (a_14, .inl (cy 1, 9, .inl f_0)), (a_15, .inl (cy 1, 9, .inl f_1)), (a_18, .inl (cy 1, 6, .inl f_2)), (a_19, .inl (cy 1, 48, .inl f_3)), (a_20, .inl (cy 1, 30, .inl f_4)), (a_13, .inl (cy 5, 3, .inr (.inr (.inr (.inr (va_up (va_up (va_up (fun _ => none) 0 (some a_24)) 1 (some a_25)) 2 (some a_26))))))), (a_24, .inr (1, [.ref a_27, .ref a_28, .int i_11, .int i_12, .int i_13])), (a_27, .inl (cy 1, 2100, .inl f_5)), (a_25, .inr (1, [.ref a_29, .ref a_30, .int i_14, .int i_15, .int i_16])), (a_29, .inl (cy 1, 2100, .inl f_6)), (a_26, .inr (1, [.ref a_31, .ref a_32, .int i_17, .int i_18, .int i_19])), (a_31, .inl (cy 1, 2100, .inl f_7))] H → va_D A [(a_0, .inr (11, [.ref a_1, .ref a_2, .ref a_3, .ref a_4, .ref a_5, .ref a_6, .ref a_7, .ref a_8, .ref a_9, .ref a_10, .ref a_11])), (a_3, .inr (10, [.ref a_12, .ref a_13])), (a_12, .inr (0, [.int i_3, .int i_4, .int i_5, .int i_6, .int i_7, .int i_8, .int i_9, .int i_10, .ref a_14, .ref a_15, .ref a_16, .ref a_17, .ref a_18, .ref a_19, .ref a_20, .ref a_21, .ref a_22, .ref a_23])), (a_14, .inl (cy 1, 9, .inl f_0)), (a_15, .inl (cy 1, 9, .inl f_1)), (a_18, .inl (cy 1, 6, .inl f_2)), (a_19, .inl (cy 1, 48, .inl f_3)), (a_20, .inl (cy 1, 30, .inl f_4)), (a_13, .inl (cy 5, 3, .inr (.inr (.inr (.inr (va_up (va_up (va_up (fun _ => none) 0 (some a_24)) 1 (some a_25)) 2 (some a_26))))))), (a_24, .inr (1, [.ref a_27, .ref a_28, .int i_11, .int i_12, .int i_13])), (a_27, .inl (cy 1, 2100, .inl f_5)), (a_25, .inr (1, [.ref a_29, .ref a_30, .int i_14, .int i_15, .int i_16])), (a_29, .inl (cy 1, 2100, .inl f_6)), (a_26, .inr (1, [.ref a_31, .ref a_32, .int i_17, .int i_18, .int i_19])), (a_31, .inl (cy 1, 2100, .inl f_7))] → va_S A s.heap H locs → ∀ (ls : Array Slot), lv_has ls 10 [(8, .int x63_8_1726), (7, .int x43_7_1580), (6, .int v9), (5, .int x63_5_1727), (4, .int x63_4_1728), (0, .ref a_0), (1, .int i_0), (2, .int i_1), (3, .int i_2)] → W p l e R s m args below meth c H locs 0 0 Q (F0 m 63 ls []) := by
              intro n
              induction n with
              | zero => intro x63_8_1726 x63_5_1727 x63_4_1728 rx63_8_1726 rx63_4_1728 hm; exact absurd hm (Nat.not_lt_zero _)
              | succ n ih63 =>
                intro x63_8_1726 x63_5_1727 x63_4_1728 rx63_8_1726 rx63_4_1728 hm63 H locs hP hD hS ls hl
                refine lv_iload hx hb dX11_better_63 (lv_at hl 0 rfl) ?_
                refine lv_iload hx hb dX11_better_65 (lv_at hl 2 rfl) ?_
                refine lv_icmp_ge (tgt := 113) hx hb dX11_better_67 (by decide) (fun c1730 => ?_) (fun c1730 => ?_)
                · have q1731 := mm_leR (mm_le c1730) w10 rx63_8_1726
                  obtain ⟨v1732, ev1732⟩ : ∃ y : Int32, y = x43_7_1580 + 1 := ⟨_, rfl⟩
                  refine lv_iinc (v := v1732) (lv' := [(7, .int v1732), (8, .int x63_8_1726), (6, .int v9), (5, .int x63_5_1727), (4, .int x63_4_1728), (0, .ref a_0), (1, .int i_0), (2, .int i_1), (3, .int i_2)]) hx hb dX11_better_113 hl (k := 1) rfl (by rw [ev1732]; rfl) (by decide) rfl ?_
                  clear hl
                  clear ls
                  intro ls hl
                  have rv1732 : mm_rg v1732 1 8 := mm_add ev1732 q1586 mm_k1 (by decide) (by decide)
                  have tv1732 := mm_addEc ev1732 q1586 mm_k1 (by decide) (k := 1) (by decide)
                  refine lv_goto (tgt := 43) hx hb dX11_better_116 (by decide) ?_
                  exact ih43 v1732 x63_5_1727 x63_4_1728 (mm_wk rv1732 (by decide)) rx63_4_1728 (mm_mu hm43 tv1732 (by decide) (rv1732).2 (by decide)) H locs hP hD hS ls (lv_sub hl [0, 2, 3, 4, 5, 6, 7, 8] rfl)
                · have q1733 := mm_ltL (h := 9) (mm_nle c1730) rx63_8_1726 w10 (by decide)
                  refine lv_aload_n hx hb dX11_better_70 rfl (lv_at hl 5 rfl) ?_
                  refine va_get (D := G) (ci := 11) (v := .ref a_3) (C := RX11) (T := TX11) (N := 11) hx hb hts (mm_i inlX11) hown hK.1 hP 0 rfl rfl 2 (by decide) (mm_h hts mm_w24) (fun _ h9 => h9) rfl dX11_better_71 ?_
                  refine lv_iload_n hx hb dX11_better_74 rfl (lv_at hl 6 rfl) ?_
                  refine lv_iload_n hx hb dX11_better_75 rfl (lv_at hl 7 rfl) ?_
                  refine lv_iload_n hx hb dX11_better_76 rfl (lv_at hl 8 rfl) ?_
                  refine lv_iload hx hb dX11_better_77 (lv_at hl 1 rfl) ?_
                  refine lv_iload hx hb dX11_better_79 (lv_at hl 0 rfl) ?_
                  refine mm_finir (va_runV (As := [.int i_0, .int i_1, .int i_2, .int x43_7_1580, .int x63_8_1726]) (rest := []) ⟨hx, hb, hml, hown, hts⟩ (K417_X10_leavingWith l G cy H.size a_3 i_0 i_1 i_2 x43_7_1580 x63_8_1726 a_12 a_13 i_3 i_4 i_5 i_6 i_7 i_8 i_9 i_10 a_14 a_15 a_16 a_17 a_18 a_19 a_20 a_21 a_22 a_23 f_0 f_1 f_2 f_3 f_4 a_24 a_25 a_26 a_27 a_28 i_11 i_12 i_13 f_5 a_29 a_30 i_14 i_15 i_16 f_6 a_31 a_32 i_17 i_18 i_19 f_7 w2 (mm_wk w3 (by decide)) w4 q1586 q1733 h0 h1 h4 h5 h6 h7 h8 h9 h10 h11 h12 h13 h14) (cwV 5 hts (mm_gV mm_w1066 mm_w1067 mm_w1068 mm_w23 mm_w1069) rfl rfl rfl hd_X10_leavingWith ⟨by rw [hRf]; exact Nat.le_of_ble_eq_true rfl, by rw [hRl]; exact Nat.le_of_ble_eq_true rfl⟩) (mm_preV hK hZ hS hA hP hD [1, 2, 3, 4, 5, 6, 7, 8, 9, 10, 11, 12, 13, 14] rfl rfl 1 rfl rfl rfl) rfl rfl hl.1 rfl (lv_room (Nat.le_of_ble_eq_true rfl)) dX11_better_81 ⟨by rw [hRc]; exact Nat.le_of_ble_eq_true rfl, by rw [hRs]; exact Nat.le_of_ble_eq_true rfl⟩) hP hD hS hA [1, 2, 3, 4, 5, 6, 7, 8, 9, 10, 11, 12, 13, 14] rfl (fun _ => rfl) ?_
                  clear hP hD hS
                  clear H locs
                  intro v1734 _u H locs hw hP hD hS
                  refine lv_istore (lv' := [(9, .int v1734), (8, .int x63_8_1726), (7, .int x43_7_1580), (6, .int v9), (5, .int x63_5_1727), (4, .int x63_4_1728), (0, .ref a_0), (1, .int i_0), (2, .int i_1), (3, .int i_2)]) hx hb dX11_better_84 hl (by decide) rfl ?_
                  clear hl
                  clear ls
                  intro ls hl
                  refine lv_iload hx hb dX11_better_86 (lv_at hl 0 rfl) ?_
                  refine lv_iload hx hb dX11_better_88 (lv_at hl 4 rfl) ?_
                  refine lv_icmp_le (tgt := 107) hx hb dX11_better_90 (by decide) (fun c1735 => ?_) (fun c1735 => ?_)
                  · obtain ⟨v1736, ev1736⟩ : ∃ y : Int32, y = x63_8_1726 + 1 := ⟨_, rfl⟩
                    refine lv_iinc (v := v1736) (lv' := [(8, .int v1736), (9, .int v1734), (7, .int x43_7_1580), (6, .int v9), (5, .int x63_5_1727), (4, .int x63_4_1728), (0, .ref a_0), (1, .int i_0), (2, .int i_1), (3, .int i_2)]) hx hb dX11_better_107 hl (k := 1) rfl (by rw [ev1736]; rfl) (by decide) rfl ?_
                    clear hl
                    clear ls
                    intro ls hl
                    have rv1736 : mm_rg v1736 1 10 := mm_add ev1736 q1733 mm_k1 (by decide) (by decide)
                    have tv1736 := mm_addEc ev1736 q1733 mm_k1 (by decide) (k := 1) (by decide)
                    refine lv_goto (tgt := 63) hx hb dX11_better_110 (by decide) ?_
                    exact ih63 v1736 x63_5_1727 x63_4_1728 (mm_wk rv1736 (by decide)) rx63_4_1728 (mm_mu hm63 tv1736 (by decide) (rv1736).2 (by decide)) H locs hP hD hS ls (lv_sub hl [0, 2, 3, 4, 5, 6, 7, 8, 9] rfl)
                  · have q1737 := mm_ltL (h := 2147483646) (mm_nle c1735) (mm_top x63_5_1727) (mm_top v1734) (by decide)
                    have q1738 := mm_ltR (lo := (-2147483647)) (mm_nle c1735) (mm_top x63_5_1727) (mm_top v1734) (by decide)
                    refine lv_iload hx hb dX11_better_93 (lv_at hl 0 rfl) ?_
                    refine lv_istore (lv' := [(5, .int v1734), (9, .int v1734), (8, .int x63_8_1726), (7, .int x43_7_1580), (6, .int v9), (4, .int x63_4_1728), (0, .ref a_0), (1, .int i_0), (2, .int i_1), (3, .int i_2)]) hx hb dX11_better_95 hl (by decide) rfl ?_
                    clear hl
                    clear ls
                    intro ls hl
                    refine lv_bipush (v := 10) hx hb dX11_better_97 (by decide) ?_
                    refine lv_iload hx hb dX11_better_99 (lv_at hl 3 rfl) ?_
                    refine lv_imul hx hb dX11_better_101 ?_
                    refine lv_topi (fun v1739 ev1739 => ?_)
                    have rv1739 : mm_rg v1739 0 70 := mm_mul ev1739 mm_k10 q1586 (by decide) (by decide)
                    refine lv_iload hx hb dX11_better_102 (lv_at hl 2 rfl) ?_
                    refine lv_iadd hx hb dX11_better_104 ?_
                    refine lv_topi (fun v1740 ev1740 => ?_)
                    have rv1740 : mm_rg v1740 0 79 := mm_add ev1740 rv1739 q1733 (by decide) (by decide)
                    have tv1740 := mm_addE ev1740 rv1739 q1733 (by decide)
                    refine lv_istore (lv' := [(4, .int v1740), (5, .int v1734), (9, .int v1734), (8, .int x63_8_1726), (7, .int x43_7_1580), (6, .int v9), (0, .ref a_0), (1, .int i_0), (2, .int i_1), (3, .int i_2)]) hx hb dX11_better_105 hl (by decide) rfl ?_
                    clear hl
                    clear ls
                    intro ls hl
                    obtain ⟨v1741, ev1741⟩ : ∃ y : Int32, y = x63_8_1726 + 1 := ⟨_, rfl⟩
                    refine lv_iinc (v := v1741) (lv' := [(8, .int v1741), (4, .int v1740), (5, .int v1734), (9, .int v1734), (7, .int x43_7_1580), (6, .int v9), (0, .ref a_0), (1, .int i_0), (2, .int i_1), (3, .int i_2)]) hx hb dX11_better_107 hl (k := 3) rfl (by rw [ev1741]; rfl) (by decide) rfl ?_
                    clear hl
                    clear ls
                    intro ls hl
                    have rv1741 : mm_rg v1741 1 10 := mm_add ev1741 q1733 mm_k1 (by decide) (by decide)
                    have tv1741 := mm_addEc ev1741 q1733 mm_k1 (by decide) (k := 1) (by decide)
                    refine lv_goto (tgt := 63) hx hb dX11_better_110 (by decide) ?_
                    exact ih63 v1741 v1734 v1740 (mm_wk rv1741 (by decide)) (mm_wk rv1740 (by decide)) (mm_mu hm63 tv1741 (by decide) (rv1741).2 (by decide)) H locs hP hD hS ls (lv_sub hl [0, 4, 5, 2, 1, 6, 7, 8, 9] rfl)
            exact L63_1728 _ 0 x43_5_1581 x43_4_1582 (mm_wk mm_k0 (by decide)) rx43_4_1582 (Nat.lt_succ_self _) H locs hP hD hS ls (lv_sub hl [0, 1, 2, 3, 4, 5, 6, 7, 8] rfl)
      exact L43_1582 _ 0 v8 (-1) (mm_wk mm_k0 (by decide)) (mm_wk mm_km1 (by decide)) (Nat.lt_succ_self _) H locs hP hD hS ls (lv_sub hl [0, 1, 2, 3, 4, 5, 6, 7] rfl)
    · exact mm_eqN c7.symm mm_k0 mm_k1 (by decide)

set_option maxHeartbeats 4000000 in
set_option maxRecDepth 100000 in
theorem K419_X10_richestOf (l : Launch) (G : va_G) (cy : Nat → ClassId) (sz : Nat) (a_0 : Nat) (i_0 : Int32) (i_1 : Int32) (i_2 : Int32) (a_1 : Nat) (a_2 : Nat) (i_3 : Int32) (i_4 : Int32) (i_5 : Int32) (i_6 : Int32) (i_7 : Int32) (i_8 : Int32) (i_9 : Int32) (i_10 : Int32) (a_3 : Nat) (a_4 : Nat) (a_5 : Nat) (a_6 : Nat) (a_7 : Nat) (a_8 : Nat) (a_9 : Nat) (a_10 : Nat) (a_11 : Nat) (a_12 : Nat) (f_0 : Nat → Int32) (f_1 : Nat → Int32) (f_2 : Nat → Int32) (f_3 : Nat → Int32) (f_4 : Nat → Int32) (a_13 : Nat) (a_14 : Nat) (a_15 : Nat) (a_16 : Nat) (a_17 : Nat) (i_11 : Int32) (i_12 : Int32) (i_13 : Int32) (f_5 : Nat → Int32) (a_18 : Nat) (a_19 : Nat) (i_14 : Int32) (i_15 : Int32) (i_16 : Int32) (f_6 : Nat → Int32) (a_20 : Nat) (a_21 : Nat) (i_17 : Int32) (i_18 : Int32) (i_19 : Int32) (f_7 : Nat → Int32) (h0 : mm_rg i_0 0 2) (h1 : mm_rg i_1 0 2147483647) (h2 : mm_rg i_2 0 63) (h3 : mm_rg i_6 0 99) (h4 : mm_rg i_7 0 9) (h5 : mm_rg i_9 0 6) (h6 : mm_ar f_0 (-1) 4) (h7 : mm_ar f_1 0 99) (h8 : mm_ar f_2 0 8) (h9 : mm_ar f_3 0 9) (h10 : mm_ar f_4 0 9) (h11 : mm_rg i_13 (-2147483648) 210) (h12 : mm_ar f_5 0 9) (h13 : mm_rg i_16 (-2147483648) 210) (h14 : mm_ar f_6 0 9) (h15 : mm_rg i_19 (-2147483648) 210) (h16 : mm_ar f_7 0 9)  : mm_CI l yX10_richestOf (mm_ws yX10_richestOf cX10_richestOf 8 (some .int)) ({ frames := 4, cells := 0, slots := 0, locals := 111 } : Room) G cy sz [(a_0, .inr (10, [.ref a_1, .ref a_2])), (a_1, .inr (0, [.int i_3, .int i_4, .int i_5, .int i_6, .int i_7, .int i_8, .int i_9, .int i_10, .ref a_3, .ref a_4, .ref a_5, .ref a_6, .ref a_7, .ref a_8, .ref a_9, .ref a_10, .ref a_11, .ref a_12])), (a_3, .inl (cy 1, 9, .inl f_0)), (a_4, .inl (cy 1, 9, .inl f_1)), (a_7, .inl (cy 1, 6, .inl f_2)), (a_8, .inl (cy 1, 48, .inl f_3)), (a_9, .inl (cy 1, 30, .inl f_4)), (a_2, .inl (cy 5, 3, .inr (.inr (.inr (.inr (va_up (va_up (va_up (fun _ => none) 0 (some a_13)) 1 (some a_14)) 2 (some a_15))))))), (a_13, .inr (1, [.ref a_16, .ref a_17, .int i_11, .int i_12, .int i_13])), (a_16, .inl (cy 1, 2100, .inl f_5)), (a_14, .inr (1, [.ref a_18, .ref a_19, .int i_14, .int i_15, .int i_16])), (a_18, .inl (cy 1, 2100, .inl f_6)), (a_15, .inr (1, [.ref a_20, .ref a_21, .int i_17, .int i_18, .int i_19])), (a_20, .inl (cy 1, 2100, .inl f_7))] [.ref a_0, .int i_0, .int i_1, .int i_2] (fun u : Unit => [(a_0, .inr (10, [.ref a_1, .ref a_2])), (a_1, .inr (0, [.int i_3, .int i_4, .int i_5, .int i_6, .int i_7, .int i_8, .int i_9, .int i_10, .ref a_3, .ref a_4, .ref a_5, .ref a_6, .ref a_7, .ref a_8, .ref a_9, .ref a_10, .ref a_11, .ref a_12])), (a_3, .inl (cy 1, 9, .inl f_0)), (a_4, .inl (cy 1, 9, .inl f_1)), (a_7, .inl (cy 1, 6, .inl f_2)), (a_8, .inl (cy 1, 48, .inl f_3)), (a_9, .inl (cy 1, 30, .inl f_4)), (a_2, .inl (cy 5, 3, .inr (.inr (.inr (.inr (va_up (va_up (va_up (fun _ => none) 0 (some a_13)) 1 (some a_14)) 2 (some a_15))))))), (a_13, .inr (1, [.ref a_16, .ref a_17, .int i_11, .int i_12, .int i_13])), (a_16, .inl (cy 1, 2100, .inl f_5)), (a_14, .inr (1, [.ref a_18, .ref a_19, .int i_14, .int i_15, .int i_16])), (a_18, .inl (cy 1, 2100, .inl f_6)), (a_15, .inr (1, [.ref a_20, .ref a_21, .int i_17, .int i_18, .int i_19])), (a_20, .inl (cy 1, 2100, .inl f_7))]) (fun (r : Int32) (u : Unit) => mm_rg r (-1) 5) 0 0 := by
  refine mm_begin (lv := [(0, .ref a_0), (1, .int i_0), (2, .int i_1), (3, .int i_2)]) (by decide) (Nat.le_of_ble_eq_true rfl) rfl ?_
  intro p e s m below meth c A ls R args Q H locs hRe hQ hAe hx hb hr hlocks hml hown hnm hts hsz hA hS hP hK hD hZ hl
  have hRf : R.frames = 4 := by rw [hRe]
  have hRl : R.locals = 111 := by rw [hRe]
  have hRc : R.cells = 0 := by rw [hRe]
  have hRs : R.slots = 0 := by rw [hRe]
  refine lv_iconst (v := (-1)) hx hb dX10_richestOf_0 (by decide) ?_
  refine lv_istore (lv' := [(4, .int (-1)), (0, .ref a_0), (1, .int i_0), (2, .int i_1), (3, .int i_2)]) hx hb dX10_richestOf_1 hl (by decide) rfl ?_
  clear hl
  clear ls
  intro ls hl
  refine lv_iconst (v := (-1)) hx hb dX10_richestOf_3 (by decide) ?_
  refine lv_istore (lv' := [(5, .int (-1)), (4, .int (-1)), (0, .ref a_0), (1, .int i_0), (2, .int i_1), (3, .int i_2)]) hx hb dX10_richestOf_4 hl (by decide) rfl ?_
  clear hl
  clear ls
  intro ls hl
  refine lv_iconst (v := 0) hx hb dX10_richestOf_6 (by decide) ?_
  refine lv_istore (lv' := [(6, .int 0), (5, .int (-1)), (4, .int (-1)), (0, .ref a_0), (1, .int i_0), (2, .int i_1), (3, .int i_2)]) hx hb dX10_richestOf_7 hl (by decide) rfl ?_
  clear hl
  clear ls
  intro ls hl
  have L9_136 : ∀ (n : Nat) (x9_6_134 : Int32) (x9_5_135 : Int32) (x9_4_136 : Int32), mm_rg x9_6_134 0 6 → mm_rg x9_5_135 (-1) 2147483647 → mm_rg x9_4_136 (-1) 5 → (6 - x9_6_134.toInt).toNat < n → ∀ (H : Heap) (locs : List Loc), va_P G vwCl [(a_0, .inr (10, [.ref a_1, .ref a_2])), (a_1, .inr (0, [.int i_3, .int i_4, .int i_5, .int i_6, .int i_7, .int i_8, .int i_9, .int i_10, .ref a_3, .ref a_4, .ref a_5, .ref a_6, .ref a_7, .ref a_8, .ref a_9, .ref a_10, .ref a_11, .ref a_12])), (a_3, .inl (cy 1, 9, .inl f_0)), (a_4, .inl (cy 1, 9, .inl f_1)), (a_7, .inl (cy 1, 6, .inl f_2)), (a_8, .inl (cy 1, 48, .inl f_3)), (a_9, .inl (cy 1, 30, .inl f_4)), (a_2, .inl (cy 5, 3, .inr (.inr (.inr (.inr (va_up (va_up (va_up (fun _ => none) 0 (some a_13)) 1 (some a_14)) 2 (some a_15))))))), (a_13, .inr (1, [.ref a_16, .ref a_17, .int i_11, .int i_12, .int i_13])), (a_16, .inl (cy 1, 2100, .inl f_5)), (a_14, .inr (1, [.ref a_18, .ref a_19, .int i_14, .int i_15, .int i_16])), (a_18, .inl (cy 1, 2100, .inl f_6)), (a_15, .inr (1, [.ref a_20, .ref a_21, .int i_17, .int i_18, .int i_19])), (a_20, .inl (cy 1, 2100, .inl f_7))] H → va_D A [(a_0, .inr (10, [.ref a_1, .ref a_2])), (a_1, .inr (0, [.int i_3, .int i_4, .int i_5, .int i_6, .int i_7, .int i_8, .int i_9, .int i_10, .ref a_3, .ref a_4, .ref a_5, .ref a_6, .ref a_7, .ref a_8, .ref a_9, .ref a_10, .ref a_11, .ref a_12])), (a_3, .inl (cy 1, 9, .inl f_0)), (a_4, .inl (cy 1, 9, .inl f_1)), (a_7, .inl (cy 1, 6, .inl f_2)), (a_8, .inl (cy 1, 48, .inl f_3)), (a_9, .inl (cy 1, 30, .inl f_4)), (a_2, .inl (cy 5, 3, .inr (.inr (.inr (.inr (va_up (va_up (va_up (fun _ => none) 0 (some a_13)) 1 (some a_14)) 2 (some a_15))))))), (a_13, .inr (1, [.ref a_16, .ref a_17, .int i_11, .int i_12, .int i_13])), (a_16, .inl (cy 1, 2100, .inl f_5)), (a_14, .inr (1, [.ref a_18, .ref a_19, .int i_14, .int i_15, .int i_16])), (a_18, .inl (cy 1, 2100, .inl f_6)), (a_15, .inr (1, [.ref a_20, .ref a_21, .int i_17, .int i_18, .int i_19])), (a_20, .inl (cy 1, 2100, .inl f_7))] → va_S A s.heap H locs → ∀ (ls : Array Slot), lv_has ls 8 [(6, .int x9_6_134), (5, .int x9_5_135), (4, .int x9_4_136), (0, .ref a_0), (1, .int i_0), (2, .int i_1), (3, .int i_2)] → W p l e R s m args below meth c H locs 0 0 Q (F0 m 9 ls []) := by
    intro n
    induction n with
    | zero => intro x9_6_134 x9_5_135 x9_4_136 rx9_6_134 rx9_5_135 rx9_4_136 hm; exact absurd hm (Nat.not_lt_zero _)
    | succ n ih9 =>
      intro x9_6_134 x9_5_135 x9_4_136 rx9_6_134 rx9_5_135 rx9_4_136 hm9 H locs hP hD hS ls hl
      refine lv_iload hx hb dX10_richestOf_9 (lv_at hl 0 rfl) ?_
      refine lv_aload_n hx hb dX10_richestOf_11 rfl (lv_at hl 3 rfl) ?_
      refine va_get (D := G) (ci := 10) (v := .ref a_1) (C := RX10) (T := TX10) (N := 2) hx hb hts (mm_i inlX10) hown hK.1 hP 0 rfl rfl 0 (by decide) (mm_h hts mm_w87) (fun _ h9 => h9) rfl dX10_richestOf_12 ?_
      refine va_get (D := G) (ci := 0) (v := .int i_9) (C := RX0) (T := TX0) (N := 18) hx hb hts (mm_i inlX0) hown hK.1 hP 1 rfl rfl 6 (by decide) (mm_h hts mm_w1082) (fun _ h9 => h9) rfl dX10_richestOf_15 ?_
      refine lv_icmp_ge (tgt := 66) hx hb dX10_richestOf_18 (by decide) (fun c138 => ?_) (fun c138 => ?_)
      · refine lv_iload hx hb dX10_richestOf_66 (lv_at hl 2 rfl) ?_
        subst hAe
        rw [hQ]
        exact W.iret (v := x9_4_136) hx hb hr (fun t ht hW => ⟨⟨x9_4_136, (), rfl, rx9_4_136, by rw [ht]; exact hP, hK.warm hW, hD⟩, hS.F ht⟩) hS.2.2 dX10_richestOf_68
      · have q139 := mm_ltL (h := 5) (mm_nle c138) rx9_6_134 h5 (by decide)
        have q140 := mm_ltR (lo := 1) (mm_nle c138) rx9_6_134 h5 (by decide)
        refine lv_iload_n hx hb dX10_richestOf_21 rfl (lv_at hl 6 rfl) ?_
        refine lv_iload hx hb dX10_richestOf_22 (lv_at hl 0 rfl) ?_
        refine lv_ishr hx hb dX10_richestOf_24 ?_
        refine lv_topi (fun v141 ev141 => ?_)
        refine lv_iconst (v := 1) hx hb dX10_richestOf_25 (by decide) ?_
        refine lv_iand hx hb dX10_richestOf_26 ?_
        refine lv_topi (fun v142 ev142 => ?_)
        have rv142 : mm_rg v142 0 1 := mm_andR ev142 mm_k1 (by decide)
        refine lv_iconst (v := 1) hx hb dX10_richestOf_27 (by decide) ?_
        refine lv_icmp_ne (tgt := 35) hx hb dX10_richestOf_28 (by decide) (fun c143 => ?_) (fun c143 => ?_)
        · have q144 := mm_neH (hi := 0) (mm_ne c143) rv142 mm_k1 (by decide) (by decide)
          refine lv_aload_n hx hb dX10_richestOf_35 rfl (lv_at hl 3 rfl) ?_
          refine lv_iload_n hx hb dX10_richestOf_36 rfl (lv_at hl 4 rfl) ?_
          refine lv_iload_n hx hb dX10_richestOf_37 rfl (lv_at hl 5 rfl) ?_
          refine lv_iload hx hb dX10_richestOf_38 (lv_at hl 0 rfl) ?_
          refine mm_finir (va_runV (As := [.int i_0, .int i_1, .int x9_6_134]) (rest := []) ⟨hx, hb, hml, hown, hts⟩ (K374_X10_leaving l G cy H.size a_0 i_0 i_1 x9_6_134 a_1 a_2 i_3 i_4 i_5 i_6 i_7 i_8 i_9 i_10 a_3 a_4 a_5 a_6 a_7 a_8 a_9 a_10 a_11 a_12 f_0 f_1 f_2 f_3 f_4 a_13 a_14 a_15 a_16 a_17 i_11 i_12 i_13 f_5 a_18 a_19 i_14 i_15 i_16 f_6 a_20 a_21 i_17 i_18 i_19 f_7 h0 h1 q139 h3 h4 h6 h7 h8 h9 h10 h11 h12 h13 h14 h15 h16) (cwV 3 hts (mm_gV mm_w906 mm_w830 mm_w831 mm_w23 mm_w832) rfl rfl rfl hd_X10_leaving ⟨by rw [hRf]; exact Nat.le_of_ble_eq_true rfl, by rw [hRl]; exact Nat.le_of_ble_eq_true rfl⟩) (mm_preV hK hZ hS hA hP hD [0, 1, 2, 3, 4, 5, 6, 7, 8, 9, 10, 11, 12, 13] rfl rfl 0 rfl rfl rfl) rfl rfl hl.1 rfl (lv_room (Nat.le_of_ble_eq_true rfl)) dX10_richestOf_40 ⟨by rw [hRc]; exact Nat.le_of_ble_eq_true rfl, by rw [hRs]; exact Nat.le_of_ble_eq_true rfl⟩) hP hD hS hA [0, 1, 2, 3, 4, 5, 6, 7, 8, 9, 10, 11, 12, 13] rfl (fun _ => rfl) ?_
          clear hP hD hS
          clear H locs
          intro v145 _u H locs hw hP hD hS
          refine lv_istore (lv' := [(7, .int v145), (6, .int x9_6_134), (5, .int x9_5_135), (4, .int x9_4_136), (0, .ref a_0), (1, .int i_0), (2, .int i_1), (3, .int i_2)]) hx hb dX10_richestOf_43 hl (by decide) rfl ?_
          clear hl
          clear ls
          intro ls hl
          refine lv_iload hx hb dX10_richestOf_45 (lv_at hl 0 rfl) ?_
          refine lv_iload hx hb dX10_richestOf_47 (lv_at hl 2 rfl) ?_
          refine lv_icmp_le (tgt := 60) hx hb dX10_richestOf_49 (by decide) (fun c146 => ?_) (fun c146 => ?_)
          · obtain ⟨v147, ev147⟩ : ∃ y : Int32, y = x9_6_134 + 1 := ⟨_, rfl⟩
            refine lv_iinc (v := v147) (lv' := [(6, .int v147), (7, .int v145), (5, .int x9_5_135), (4, .int x9_4_136), (0, .ref a_0), (1, .int i_0), (2, .int i_1), (3, .int i_2)]) hx hb dX10_richestOf_60 hl (k := 1) rfl (by rw [ev147]; rfl) (by decide) rfl ?_
            clear hl
            clear ls
            intro ls hl
            have rv147 : mm_rg v147 1 6 := mm_add ev147 q139 mm_k1 (by decide) (by decide)
            have tv147 := mm_addEc ev147 q139 mm_k1 (by decide) (k := 1) (by decide)
            refine lv_goto (tgt := 9) hx hb dX10_richestOf_63 (by decide) ?_
            exact ih9 v147 x9_5_135 x9_4_136 (mm_wk rv147 (by decide)) rx9_5_135 rx9_4_136 (mm_mu hm9 tv147 (by decide) (rv147).2 (by decide)) H locs hP hD hS ls (lv_sub hl [0, 2, 3, 4, 5, 6, 7] rfl)
          · have q148 := mm_ltL (h := 2147483646) (mm_nle c146) rx9_5_135 (mm_top v145) (by decide)
            have q149 := mm_ltR (lo := 0) (mm_nle c146) rx9_5_135 (mm_top v145) (by decide)
            refine lv_iload hx hb dX10_richestOf_52 (lv_at hl 0 rfl) ?_
            refine lv_istore (lv' := [(5, .int v145), (7, .int v145), (6, .int x9_6_134), (4, .int x9_4_136), (0, .ref a_0), (1, .int i_0), (2, .int i_1), (3, .int i_2)]) hx hb dX10_richestOf_54 hl (by decide) rfl ?_
            clear hl
            clear ls
            intro ls hl
            refine lv_iload hx hb dX10_richestOf_56 (lv_at hl 2 rfl) ?_
            refine lv_istore (lv' := [(4, .int x9_6_134), (5, .int v145), (7, .int v145), (6, .int x9_6_134), (0, .ref a_0), (1, .int i_0), (2, .int i_1), (3, .int i_2)]) hx hb dX10_richestOf_58 hl (by decide) rfl ?_
            clear hl
            clear ls
            intro ls hl
            obtain ⟨v150, ev150⟩ : ∃ y : Int32, y = x9_6_134 + 1 := ⟨_, rfl⟩
            refine lv_iinc (v := v150) (lv' := [(6, .int v150), (4, .int x9_6_134), (5, .int v145), (7, .int v145), (0, .ref a_0), (1, .int i_0), (2, .int i_1), (3, .int i_2)]) hx hb dX10_richestOf_60 hl (k := 3) rfl (by rw [ev150]; rfl) (by decide) rfl ?_
            clear hl
            clear ls
            intro ls hl
            have rv150 : mm_rg v150 1 6 := mm_add ev150 q139 mm_k1 (by decide) (by decide)
            have tv150 := mm_addEc ev150 q139 mm_k1 (by decide) (k := 1) (by decide)
            refine lv_goto (tgt := 9) hx hb dX10_richestOf_63 (by decide) ?_
            exact ih9 v150 v145 x9_6_134 (mm_wk rv150 (by decide)) (mm_wk q149 (by decide)) (mm_wk q139 (by decide)) (mm_mu hm9 tv150 (by decide) (rv150).2 (by decide)) H locs hP hD hS ls (lv_sub hl [0, 2, 1, 4, 5, 6, 7] rfl)
        · have q151 := mm_eqI (lo := 1) (hi := 1) c143 rv142 mm_k1 (by decide)
          refine lv_iconst (v := (-1)) hx hb dX10_richestOf_31 (by decide) ?_
          refine lv_goto (tgt := 43) hx hb dX10_richestOf_32 (by decide) ?_
          refine lv_istore (lv' := [(7, .int (-1)), (6, .int x9_6_134), (5, .int x9_5_135), (4, .int x9_4_136), (0, .ref a_0), (1, .int i_0), (2, .int i_1), (3, .int i_2)]) hx hb dX10_richestOf_43 hl (by decide) rfl ?_
          clear hl
          clear ls
          intro ls hl
          refine lv_iload hx hb dX10_richestOf_45 (lv_at hl 0 rfl) ?_
          refine lv_iload hx hb dX10_richestOf_47 (lv_at hl 2 rfl) ?_
          refine lv_icmp_le (tgt := 60) hx hb dX10_richestOf_49 (by decide) (fun c152 => ?_) (fun c152 => ?_)
          · obtain ⟨v153, ev153⟩ : ∃ y : Int32, y = x9_6_134 + 1 := ⟨_, rfl⟩
            refine lv_iinc (v := v153) (lv' := [(6, .int v153), (7, .int (-1)), (5, .int x9_5_135), (4, .int x9_4_136), (0, .ref a_0), (1, .int i_0), (2, .int i_1), (3, .int i_2)]) hx hb dX10_richestOf_60 hl (k := 1) rfl (by rw [ev153]; rfl) (by decide) rfl ?_
            clear hl
            clear ls
            intro ls hl
            have rv153 : mm_rg v153 1 6 := mm_add ev153 q139 mm_k1 (by decide) (by decide)
            have tv153 := mm_addEc ev153 q139 mm_k1 (by decide) (k := 1) (by decide)
            refine lv_goto (tgt := 9) hx hb dX10_richestOf_63 (by decide) ?_
            exact ih9 v153 x9_5_135 x9_4_136 (mm_wk rv153 (by decide)) rx9_5_135 rx9_4_136 (mm_mu hm9 tv153 (by decide) (rv153).2 (by decide)) H locs hP hD hS ls (lv_sub hl [0, 2, 3, 4, 5, 6, 7] rfl)
          · have q154 := mm_ltL (h := (-2)) (mm_nle c152) rx9_5_135 mm_km1 (by decide)
            exact mm_no q154 (by decide)
  exact L9_136 _ 0 (-1) (-1) (mm_wk mm_k0 (by decide)) (mm_wk mm_km1 (by decide)) (mm_wk mm_km1 (by decide)) (Nat.lt_succ_self _) H locs hP hD hS ls (lv_sub hl [0, 1, 2, 3, 4, 5, 6] rfl)

set_option maxHeartbeats 4000000 in
set_option maxRecDepth 100000 in
theorem K420_X11_richest (l : Launch) (G : va_G) (cy : Nat → ClassId) (sz : Nat) (a_0 : Nat) (i_0 : Int32) (i_1 : Int32) (a_1 : Nat) (a_2 : Nat) (a_3 : Nat) (a_4 : Nat) (a_5 : Nat) (a_6 : Nat) (a_7 : Nat) (a_8 : Nat) (a_9 : Nat) (a_10 : Nat) (a_11 : Nat) (a_12 : Nat) (a_13 : Nat) (i_2 : Int32) (i_3 : Int32) (i_4 : Int32) (i_5 : Int32) (i_6 : Int32) (i_7 : Int32) (i_8 : Int32) (i_9 : Int32) (a_14 : Nat) (a_15 : Nat) (a_16 : Nat) (a_17 : Nat) (a_18 : Nat) (a_19 : Nat) (a_20 : Nat) (a_21 : Nat) (a_22 : Nat) (a_23 : Nat) (f_0 : Nat → Int32) (f_1 : Nat → Int32) (f_2 : Nat → Int32) (f_3 : Nat → Int32) (f_4 : Nat → Int32) (a_24 : Nat) (a_25 : Nat) (a_26 : Nat) (a_27 : Nat) (a_28 : Nat) (i_10 : Int32) (i_11 : Int32) (i_12 : Int32) (f_5 : Nat → Int32) (a_29 : Nat) (a_30 : Nat) (i_13 : Int32) (i_14 : Int32) (i_15 : Int32) (f_6 : Nat → Int32) (a_31 : Nat) (a_32 : Nat) (i_16 : Int32) (i_17 : Int32) (i_18 : Int32) (f_7 : Nat → Int32) (h0 : mm_rg i_5 0 99) (h1 : mm_rg i_6 0 9) (h2 : mm_rg i_7 0 3) (h3 : mm_rg i_8 0 6) (h4 : mm_ar f_0 (-1) 4) (h5 : mm_ar f_1 0 99) (h6 : mm_ar f_2 0 8) (h7 : mm_ar f_3 0 9) (h8 : mm_ar f_4 0 9) (h9 : mm_rg i_12 (-2147483648) 210) (h10 : mm_ar f_5 0 9) (h11 : mm_rg i_15 (-2147483648) 210) (h12 : mm_ar f_6 0 9) (h13 : mm_rg i_18 (-2147483648) 210) (h14 : mm_ar f_7 0 9)  : mm_CI l yX11_richest (mm_ws yX11_richest cX11_richest 3 (some .int)) ({ frames := 5, cells := 0, slots := 0, locals := 138 } : Room) G cy sz [(a_0, .inr (11, [.ref a_1, .ref a_2, .ref a_3, .ref a_4, .ref a_5, .ref a_6, .ref a_7, .ref a_8, .ref a_9, .ref a_10, .ref a_11])), (a_3, .inr (10, [.ref a_12, .ref a_13])), (a_12, .inr (0, [.int i_2, .int i_3, .int i_4, .int i_5, .int i_6, .int i_7, .int i_8, .int i_9, .ref a_14, .ref a_15, .ref a_16, .ref a_17, .ref a_18, .ref a_19, .ref a_20, .ref a_21, .ref a_22, .ref a_23])), (a_14, .inl (cy 1, 9, .inl f_0)), (a_15, .inl (cy 1, 9, .inl f_1)), (a_18, .inl (cy 1, 6, .inl f_2)), (a_19, .inl (cy 1, 48, .inl f_3)), (a_20, .inl (cy 1, 30, .inl f_4)), (a_13, .inl (cy 5, 3, .inr (.inr (.inr (.inr (va_up (va_up (va_up (fun _ => none) 0 (some a_24)) 1 (some a_25)) 2 (some a_26))))))), (a_24, .inr (1, [.ref a_27, .ref a_28, .int i_10, .int i_11, .int i_12])), (a_27, .inl (cy 1, 2100, .inl f_5)), (a_25, .inr (1, [.ref a_29, .ref a_30, .int i_13, .int i_14, .int i_15])), (a_29, .inl (cy 1, 2100, .inl f_6)), (a_26, .inr (1, [.ref a_31, .ref a_32, .int i_16, .int i_17, .int i_18])), (a_31, .inl (cy 1, 2100, .inl f_7))] [.ref a_0, .int i_0, .int i_1] (fun u : Unit => [(a_0, .inr (11, [.ref a_1, .ref a_2, .ref a_3, .ref a_4, .ref a_5, .ref a_6, .ref a_7, .ref a_8, .ref a_9, .ref a_10, .ref a_11])), (a_3, .inr (10, [.ref a_12, .ref a_13])), (a_12, .inr (0, [.int i_2, .int i_3, .int i_4, .int i_5, .int i_6, .int i_7, .int i_8, .int i_9, .ref a_14, .ref a_15, .ref a_16, .ref a_17, .ref a_18, .ref a_19, .ref a_20, .ref a_21, .ref a_22, .ref a_23])), (a_14, .inl (cy 1, 9, .inl f_0)), (a_15, .inl (cy 1, 9, .inl f_1)), (a_18, .inl (cy 1, 6, .inl f_2)), (a_19, .inl (cy 1, 48, .inl f_3)), (a_20, .inl (cy 1, 30, .inl f_4)), (a_13, .inl (cy 5, 3, .inr (.inr (.inr (.inr (va_up (va_up (va_up (fun _ => none) 0 (some a_24)) 1 (some a_25)) 2 (some a_26))))))), (a_24, .inr (1, [.ref a_27, .ref a_28, .int i_10, .int i_11, .int i_12])), (a_27, .inl (cy 1, 2100, .inl f_5)), (a_25, .inr (1, [.ref a_29, .ref a_30, .int i_13, .int i_14, .int i_15])), (a_29, .inl (cy 1, 2100, .inl f_6)), (a_26, .inr (1, [.ref a_31, .ref a_32, .int i_16, .int i_17, .int i_18])), (a_31, .inl (cy 1, 2100, .inl f_7))]) (fun (r : Int32) (u : Unit) => mm_rg r (-2) 5) 0 0 := by
  refine mm_begin (lv := [(0, .ref a_0), (1, .int i_0), (2, .int i_1)]) (by decide) (Nat.le_of_ble_eq_true rfl) rfl ?_
  intro p e s m below meth c A ls R args Q H locs hRe hQ hAe hx hb hr hlocks hml hown hnm hts hsz hA hS hP hK hD hZ hl
  have hRf : R.frames = 5 := by rw [hRe]
  have hRl : R.locals = 138 := by rw [hRe]
  have hRc : R.cells = 0 := by rw [hRe]
  have hRs : R.slots = 0 := by rw [hRe]
  refine lv_aload_n hx hb dX11_richest_0 rfl (lv_at hl 0 rfl) ?_
  refine lv_iload_n hx hb dX11_richest_1 rfl (lv_at hl 1 rfl) ?_
  refine mm_finir (va_runV (As := [.int i_0]) (rest := []) ⟨hx, hb, hml, hown, hts⟩ (K350_X11_isLand l G cy H.size a_0 i_0 a_1 a_2 a_3 a_4 a_5 a_6 a_7 a_8 a_9 a_10 a_11 a_12 a_13 i_2 i_3 i_4 i_5 i_6 i_7 i_8 i_9 a_14 a_15 a_16 a_17 a_18 a_19 a_20 a_21 a_22 a_23 h2) (cwV 1 hts (mm_gV mm_w626 mm_w627 mm_w628 mm_w2 mm_w629) rfl rfl rfl hd_X11_isLand ⟨by rw [hRf]; exact Nat.le_of_ble_eq_true rfl, by rw [hRl]; exact Nat.le_of_ble_eq_true rfl⟩) (mm_preV hK hZ hS hA hP hD [0, 1, 2] rfl rfl 0 rfl rfl rfl) rfl rfl hl.1 rfl (lv_room (Nat.le_of_ble_eq_true rfl)) dX11_richest_2 ⟨by rw [hRc]; exact Nat.le_of_ble_eq_true rfl, by rw [hRs]; exact Nat.le_of_ble_eq_true rfl⟩) hP hD hS hA [0, 1, 2] rfl (fun _ => rfl) ?_
  clear hP hD hS
  clear H locs
  intro v1 _u H locs hw hP hD hS
  rcases hw with ⟨rfl, w2⟩ | ⟨rfl, w3⟩
  · refine lv_if_eq (tgt := 15) hx hb dX11_richest_5 (by decide) (fun c4 => ?_) (fun c4 => ?_)
    · refine lv_bipush (v := (-2)) hx hb dX11_richest_15 (by decide) ?_
      subst hAe
      rw [hQ]
      exact W.iret (v := (-2)) hx hb hr (fun t ht hW => ⟨⟨(-2), (), rfl, (mm_wk mm_km2 (by decide)), by rw [ht]; exact hP, hK.warm hW, hD⟩, hS.F ht⟩) hS.2.2 dX11_richest_17
    · have q5 := mm_neL (lo := 1) (mm_ne c4) mm_k0 mm_k0 (by decide) (by decide)
      exact mm_no q5 (by decide)
  · refine lv_if_eq (tgt := 15) hx hb dX11_richest_5 (by decide) (fun c6 => ?_) (fun c6 => ?_)
    · exact mm_eqN c6.symm mm_k0 mm_k1 (by decide)
    · refine lv_iload_n hx hb dX11_richest_8 rfl (lv_at hl 2 rfl) ?_
      refine mm_finir (va_runS (As := [.int i_1]) (rest := []) ⟨hx, hb, hml, hown, hts⟩ (K353_X11_isDay l G cy H.size i_1 ) (va_cwS 1 hts (mm_gS mm_w661 mm_w662 mm_w2 mm_w663) rfl rfl rfl hs_X11_isDay ⟨by rw [hRf]; exact Nat.le_of_ble_eq_true rfl, by rw [hRl]; exact Nat.le_of_ble_eq_true rfl⟩) (mm_preS hK hZ hS hA hP hD [] rfl rfl) rfl rfl hl.1 rfl (lv_room (Nat.le_of_ble_eq_true rfl)) dX11_richest_9 ⟨by rw [hRc]; exact Nat.le_of_ble_eq_true rfl, by rw [hRs]; exact Nat.le_of_ble_eq_true rfl⟩) hP hD hS hA [] rfl (fun _ => rfl) ?_
      clear hP hD hS
      clear H locs
      intro v7 _u H locs hw hP hD hS
      rcases hw with ⟨rfl, w8⟩ | ⟨rfl, w9⟩
      · refine lv_if_ne (tgt := 18) hx hb dX11_richest_12 (by decide) (fun c10 => ?_) (fun c10 => ?_)
        · have q11 := mm_neL (lo := 1) (mm_ne c10) mm_k0 mm_k0 (by decide) (by decide)
          exact mm_no q11 (by decide)
        · refine lv_bipush (v := (-2)) hx hb dX11_richest_15 (by decide) ?_
          subst hAe
          rw [hQ]
          exact W.iret (v := (-2)) hx hb hr (fun t ht hW => ⟨⟨(-2), (), rfl, (mm_wk mm_km2 (by decide)), by rw [ht]; exact hP, hK.warm hW, hD⟩, hS.F ht⟩) hS.2.2 dX11_richest_17
      · refine lv_if_ne (tgt := 18) hx hb dX11_richest_12 (by decide) (fun c12 => ?_) (fun c12 => ?_)
        · refine lv_aload_n hx hb dX11_richest_18 rfl (lv_at hl 0 rfl) ?_
          refine va_get (D := G) (ci := 11) (v := .ref a_3) (C := RX11) (T := TX11) (N := 11) hx hb hts (mm_i inlX11) hown hK.1 hP 0 rfl rfl 2 (by decide) (mm_h hts mm_w24) (fun _ h9 => h9) rfl dX11_richest_19 ?_
          refine lv_iload_n hx hb dX11_richest_22 rfl (lv_at hl 1 rfl) ?_
          refine lv_iload_n hx hb dX11_richest_23 rfl (lv_at hl 2 rfl) ?_
          refine lv_iconst (v := 0) hx hb dX11_richest_24 (by decide) ?_
          refine mm_finir (va_runV (As := [.int i_0, .int i_1, .int 0]) (rest := []) ⟨hx, hb, hml, hown, hts⟩ (K419_X10_richestOf l G cy H.size a_3 i_0 i_1 0 a_12 a_13 i_2 i_3 i_4 i_5 i_6 i_7 i_8 i_9 a_14 a_15 a_16 a_17 a_18 a_19 a_20 a_21 a_22 a_23 f_0 f_1 f_2 f_3 f_4 a_24 a_25 a_26 a_27 a_28 i_10 i_11 i_12 f_5 a_29 a_30 i_13 i_14 i_15 f_6 a_31 a_32 i_16 i_17 i_18 f_7 w3 (mm_wk w9 (by decide)) (mm_wk mm_k0 (by decide)) h0 h1 h3 h4 h5 h6 h7 h8 h9 h10 h11 h12 h13 h14) (cwV 3 hts (mm_gV mm_w1078 mm_w1079 mm_w1080 mm_w23 mm_w1081) rfl rfl rfl hd_X10_richestOf ⟨by rw [hRf]; exact Nat.le_of_ble_eq_true rfl, by rw [hRl]; exact Nat.le_of_ble_eq_true rfl⟩) (mm_preV hK hZ hS hA hP hD [1, 2, 3, 4, 5, 6, 7, 8, 9, 10, 11, 12, 13, 14] rfl rfl 1 rfl rfl rfl) rfl rfl hl.1 rfl (lv_room (Nat.le_of_ble_eq_true rfl)) dX11_richest_25 ⟨by rw [hRc]; exact Nat.le_of_ble_eq_true rfl, by rw [hRs]; exact Nat.le_of_ble_eq_true rfl⟩) hP hD hS hA [1, 2, 3, 4, 5, 6, 7, 8, 9, 10, 11, 12, 13, 14] rfl (fun _ => rfl) ?_
          clear hP hD hS
          clear H locs
          intro v13 _u H locs hw hP hD hS
          have w14 := hw
          subst hAe
          rw [hQ]
          exact W.iret (v := v13) hx hb hr (fun t ht hW => ⟨⟨v13, (), rfl, (mm_wk w14 (by decide)), by rw [ht]; exact hP, hK.warm hW, hD⟩, hS.F ht⟩) hS.2.2 dX11_richest_28
        · exact mm_eqN c12.symm mm_k0 mm_k1 (by decide)

set_option maxHeartbeats 4000000 in
set_option maxRecDepth 100000 in
theorem K421_X11_all (l : Launch) (G : va_G) (cy : Nat → ClassId) (sz : Nat) (a_0 : Nat) (i_0 : Int32) (i_1 : Int32) (a_1 : Nat) (a_2 : Nat) (a_3 : Nat) (a_4 : Nat) (a_5 : Nat) (a_6 : Nat) (a_7 : Nat) (a_8 : Nat) (a_9 : Nat) (a_10 : Nat) (a_11 : Nat) (a_12 : Nat) (a_13 : Nat) (i_2 : Int32) (i_3 : Int32) (i_4 : Int32) (i_5 : Int32) (i_6 : Int32) (i_7 : Int32) (i_8 : Int32) (i_9 : Int32) (a_14 : Nat) (a_15 : Nat) (a_16 : Nat) (a_17 : Nat) (a_18 : Nat) (a_19 : Nat) (a_20 : Nat) (a_21 : Nat) (a_22 : Nat) (a_23 : Nat) (f_0 : Nat → Int32) (f_1 : Nat → Int32) (f_2 : Nat → Int32) (f_3 : Nat → Int32) (f_4 : Nat → Int32) (a_24 : Nat) (a_25 : Nat) (a_26 : Nat) (a_27 : Nat) (a_28 : Nat) (i_10 : Int32) (i_11 : Int32) (i_12 : Int32) (f_5 : Nat → Int32) (a_29 : Nat) (a_30 : Nat) (i_13 : Int32) (i_14 : Int32) (i_15 : Int32) (f_6 : Nat → Int32) (a_31 : Nat) (a_32 : Nat) (i_16 : Int32) (i_17 : Int32) (i_18 : Int32) (f_7 : Nat → Int32) (h0 : mm_rg i_5 0 99) (h1 : mm_rg i_6 0 9) (h2 : mm_rg i_7 0 3) (h3 : mm_rg i_8 0 6) (h4 : mm_ar f_0 (-1) 4) (h5 : mm_ar f_1 0 99) (h6 : mm_ar f_2 0 8) (h7 : mm_ar f_3 0 9) (h8 : mm_ar f_4 0 9) (h9 : mm_rg i_12 (-2147483648) 210) (h10 : mm_ar f_5 0 9) (h11 : mm_rg i_15 (-2147483648) 210) (h12 : mm_ar f_6 0 9) (h13 : mm_rg i_18 (-2147483648) 210) (h14 : mm_ar f_7 0 9)  : mm_CI l yX11_all (mm_ws yX11_all cX11_all 5 (some .int)) ({ frames := 3, cells := 0, slots := 0, locals := 88 } : Room) G cy sz [(a_0, .inr (11, [.ref a_1, .ref a_2, .ref a_3, .ref a_4, .ref a_5, .ref a_6, .ref a_7, .ref a_8, .ref a_9, .ref a_10, .ref a_11])), (a_3, .inr (10, [.ref a_12, .ref a_13])), (a_12, .inr (0, [.int i_2, .int i_3, .int i_4, .int i_5, .int i_6, .int i_7, .int i_8, .int i_9, .ref a_14, .ref a_15, .ref a_16, .ref a_17, .ref a_18, .ref a_19, .ref a_20, .ref a_21, .ref a_22, .ref a_23])), (a_14, .inl (cy 1, 9, .inl f_0)), (a_15, .inl (cy 1, 9, .inl f_1)), (a_18, .inl (cy 1, 6, .inl f_2)), (a_19, .inl (cy 1, 48, .inl f_3)), (a_20, .inl (cy 1, 30, .inl f_4)), (a_13, .inl (cy 5, 3, .inr (.inr (.inr (.inr (va_up (va_up (va_up (fun _ => none) 0 (some a_24)) 1 (some a_25)) 2 (some a_26))))))), (a_24, .inr (1, [.ref a_27, .ref a_28, .int i_10, .int i_11, .int i_12])), (a_27, .inl (cy 1, 2100, .inl f_5)), (a_25, .inr (1, [.ref a_29, .ref a_30, .int i_13, .int i_14, .int i_15])), (a_29, .inl (cy 1, 2100, .inl f_6)), (a_26, .inr (1, [.ref a_31, .ref a_32, .int i_16, .int i_17, .int i_18])), (a_31, .inl (cy 1, 2100, .inl f_7))] [.ref a_0, .int i_0, .int i_1] (fun u : Unit => [(a_0, .inr (11, [.ref a_1, .ref a_2, .ref a_3, .ref a_4, .ref a_5, .ref a_6, .ref a_7, .ref a_8, .ref a_9, .ref a_10, .ref a_11])), (a_3, .inr (10, [.ref a_12, .ref a_13])), (a_12, .inr (0, [.int i_2, .int i_3, .int i_4, .int i_5, .int i_6, .int i_7, .int i_8, .int i_9, .ref a_14, .ref a_15, .ref a_16, .ref a_17, .ref a_18, .ref a_19, .ref a_20, .ref a_21, .ref a_22, .ref a_23])), (a_14, .inl (cy 1, 9, .inl f_0)), (a_15, .inl (cy 1, 9, .inl f_1)), (a_18, .inl (cy 1, 6, .inl f_2)), (a_19, .inl (cy 1, 48, .inl f_3)), (a_20, .inl (cy 1, 30, .inl f_4)), (a_13, .inl (cy 5, 3, .inr (.inr (.inr (.inr (va_up (va_up (va_up (fun _ => none) 0 (some a_24)) 1 (some a_25)) 2 (some a_26))))))), (a_24, .inr (1, [.ref a_27, .ref a_28, .int i_10, .int i_11, .int i_12])), (a_27, .inl (cy 1, 2100, .inl f_5)), (a_25, .inr (1, [.ref a_29, .ref a_30, .int i_13, .int i_14, .int i_15])), (a_29, .inl (cy 1, 2100, .inl f_6)), (a_26, .inr (1, [.ref a_31, .ref a_32, .int i_16, .int i_17, .int i_18])), (a_31, .inl (cy 1, 2100, .inl f_7))]) (fun (r : Int32) (u : Unit) => True) 0 0 := by
  refine mm_begin (lv := [(0, .ref a_0), (1, .int i_0), (2, .int i_1)]) (by decide) (Nat.le_of_ble_eq_true rfl) rfl ?_
  intro p e s m below meth c A ls R args Q H locs hRe hQ hAe hx hb hr hlocks hml hown hnm hts hsz hA hS hP hK hD hZ hl
  have hRf : R.frames = 3 := by rw [hRe]
  have hRl : R.locals = 88 := by rw [hRe]
  have hRc : R.cells = 0 := by rw [hRe]
  have hRs : R.slots = 0 := by rw [hRe]
  refine lv_aload_n hx hb dX11_all_0 rfl (lv_at hl 0 rfl) ?_
  refine lv_iload_n hx hb dX11_all_1 rfl (lv_at hl 1 rfl) ?_
  refine mm_finir (va_runV (As := [.int i_0]) (rest := []) ⟨hx, hb, hml, hown, hts⟩ (K350_X11_isLand l G cy H.size a_0 i_0 a_1 a_2 a_3 a_4 a_5 a_6 a_7 a_8 a_9 a_10 a_11 a_12 a_13 i_2 i_3 i_4 i_5 i_6 i_7 i_8 i_9 a_14 a_15 a_16 a_17 a_18 a_19 a_20 a_21 a_22 a_23 h2) (cwV 1 hts (mm_gV mm_w626 mm_w627 mm_w628 mm_w2 mm_w629) rfl rfl rfl hd_X11_isLand ⟨by rw [hRf]; exact Nat.le_of_ble_eq_true rfl, by rw [hRl]; exact Nat.le_of_ble_eq_true rfl⟩) (mm_preV hK hZ hS hA hP hD [0, 1, 2] rfl rfl 0 rfl rfl rfl) rfl rfl hl.1 rfl (lv_room (Nat.le_of_ble_eq_true rfl)) dX11_all_2 ⟨by rw [hRc]; exact Nat.le_of_ble_eq_true rfl, by rw [hRs]; exact Nat.le_of_ble_eq_true rfl⟩) hP hD hS hA [0, 1, 2] rfl (fun _ => rfl) ?_
  clear hP hD hS
  clear H locs
  intro v1 _u H locs hw hP hD hS
  rcases hw with ⟨rfl, w2⟩ | ⟨rfl, w3⟩
  · refine lv_if_eq (tgt := 15) hx hb dX11_all_5 (by decide) (fun c4 => ?_) (fun c4 => ?_)
    · refine lv_bipush (v := (-2)) hx hb dX11_all_15 (by decide) ?_
      subst hAe
      rw [hQ]
      exact W.iret (v := (-2)) hx hb hr (fun t ht hW => ⟨⟨(-2), (), rfl, trivial, by rw [ht]; exact hP, hK.warm hW, hD⟩, hS.F ht⟩) hS.2.2 dX11_all_17
    · have q5 := mm_neL (lo := 1) (mm_ne c4) mm_k0 mm_k0 (by decide) (by decide)
      exact mm_no q5 (by decide)
  · refine lv_if_eq (tgt := 15) hx hb dX11_all_5 (by decide) (fun c6 => ?_) (fun c6 => ?_)
    · exact mm_eqN c6.symm mm_k0 mm_k1 (by decide)
    · refine lv_iload_n hx hb dX11_all_8 rfl (lv_at hl 2 rfl) ?_
      refine mm_finir (va_runS (As := [.int i_1]) (rest := []) ⟨hx, hb, hml, hown, hts⟩ (K353_X11_isDay l G cy H.size i_1 ) (va_cwS 1 hts (mm_gS mm_w661 mm_w662 mm_w2 mm_w663) rfl rfl rfl hs_X11_isDay ⟨by rw [hRf]; exact Nat.le_of_ble_eq_true rfl, by rw [hRl]; exact Nat.le_of_ble_eq_true rfl⟩) (mm_preS hK hZ hS hA hP hD [] rfl rfl) rfl rfl hl.1 rfl (lv_room (Nat.le_of_ble_eq_true rfl)) dX11_all_9 ⟨by rw [hRc]; exact Nat.le_of_ble_eq_true rfl, by rw [hRs]; exact Nat.le_of_ble_eq_true rfl⟩) hP hD hS hA [] rfl (fun _ => rfl) ?_
      clear hP hD hS
      clear H locs
      intro v7 _u H locs hw hP hD hS
      rcases hw with ⟨rfl, w8⟩ | ⟨rfl, w9⟩
      · refine lv_if_ne (tgt := 18) hx hb dX11_all_12 (by decide) (fun c10 => ?_) (fun c10 => ?_)
        · have q11 := mm_neL (lo := 1) (mm_ne c10) mm_k0 mm_k0 (by decide) (by decide)
          exact mm_no q11 (by decide)
        · refine lv_bipush (v := (-2)) hx hb dX11_all_15 (by decide) ?_
          subst hAe
          rw [hQ]
          exact W.iret (v := (-2)) hx hb hr (fun t ht hW => ⟨⟨(-2), (), rfl, trivial, by rw [ht]; exact hP, hK.warm hW, hD⟩, hS.F ht⟩) hS.2.2 dX11_all_17
      · refine lv_if_ne (tgt := 18) hx hb dX11_all_12 (by decide) (fun c12 => ?_) (fun c12 => ?_)
        · refine lv_aload_n hx hb dX11_all_18 rfl (lv_at hl 0 rfl) ?_
          refine va_get (D := G) (ci := 11) (v := .ref a_3) (C := RX11) (T := TX11) (N := 11) hx hb hts (mm_i inlX11) hown hK.1 hP 0 rfl rfl 2 (by decide) (mm_h hts mm_w24) (fun _ h9 => h9) rfl dX11_all_19 ?_
          refine va_get (D := G) (ci := 10) (v := .ref a_12) (C := RX10) (T := TX10) (N := 2) hx hb hts (mm_i inlX10) hown hK.1 hP 1 rfl rfl 0 (by decide) (mm_h hts mm_w199) (fun _ h9 => h9) rfl dX11_all_22 ?_
          refine va_get (D := G) (ci := 0) (v := .int i_5) (C := RX0) (T := TX0) (N := 18) hx hb hts (mm_i inlX0) hown hK.1 hP 2 rfl rfl 3 (by decide) (mm_h hts mm_w1095) (fun _ h9 => h9) rfl dX11_all_25 ?_
          refine lv_istore_n (lv' := [(3, .int i_5), (0, .ref a_0), (1, .int i_0), (2, .int i_1)]) hx hb dX11_all_28 rfl hl (by decide) rfl ?_
          clear hl
          clear ls
          intro ls hl
          refine lv_iconst (v := 0) hx hb dX11_all_29 (by decide) ?_
          refine lv_istore (lv' := [(4, .int 0), (3, .int i_5), (0, .ref a_0), (1, .int i_0), (2, .int i_1)]) hx hb dX11_all_30 hl (by decide) rfl ?_
          clear hl
          clear ls
          intro ls hl
          have L32_53 : ∀ (n : Nat) (x32_4_52 : Int32) (x32_3_53 : Int32), mm_rg x32_4_52 0 6 → (6 - x32_4_52.toInt).toNat < n → ∀ (H : Heap) (locs : List Loc), va_P G vwCl [(a_0, .inr (11, [.ref a_1, .ref a_2, .ref a_3, .ref a_4, .ref a_5, .ref a_6, .ref a_7, .ref a_8, .ref a_9, .ref a_10, .ref a_11])), (a_3, .inr (10, [.ref a_12, .ref a_13])), (a_12, .inr (0, [.int i_2, .int i_3, .int i_4, .int i_5, .int i_6, .int i_7, .int i_8, .int i_9, .ref a_14, .ref a_15, .ref a_16, .ref a_17, .ref a_18, .ref a_19, .ref a_20, .ref a_21, .ref a_22, .ref a_23])), (a_14, .inl (cy 1, 9, .inl f_0)), (a_15, .inl (cy 1, 9, .inl f_1)), (a_18, .inl (cy 1, 6, .inl f_2)), (a_19, .inl (cy 1, 48, .inl f_3)), (a_20, .inl (cy 1, 30, .inl f_4)), (a_13, .inl (cy 5, 3, .inr (.inr (.inr (.inr (va_up (va_up (va_up (fun _ => none) 0 (some a_24)) 1 (some a_25)) 2 (some a_26))))))), (a_24, .inr (1, [.ref a_27, .ref a_28, .int i_10, .int i_11, .int i_12])), (a_27, .inl (cy 1, 2100, .inl f_5)), (a_25, .inr (1, [.ref a_29, .ref a_30, .int i_13, .int i_14, .int i_15])), (a_29, .inl (cy 1, 2100, .inl f_6)), (a_26, .inr (1, [.ref a_31, .ref a_32, .int i_16, .int i_17, .int i_18])), (a_31, .inl (cy 1, 2100, .inl f_7))] H → va_D A [(a_0, .inr (11, [.ref a_1, .ref a_2, .ref a_3, .ref a_4, .ref a_5, .ref a_6, .ref a_7, .ref a_8, .ref a_9, .ref a_10, .ref a_11])), (a_3, .inr (10, [.ref a_12, .ref a_13])), (a_12, .inr (0, [.int i_2, .int i_3, .int i_4, .int i_5, .int i_6, .int i_7, .int i_8, .int i_9, .ref a_14, .ref a_15, .ref a_16, .ref a_17, .ref a_18, .ref a_19, .ref a_20, .ref a_21, .ref a_22, .ref a_23])), (a_14, .inl (cy 1, 9, .inl f_0)), (a_15, .inl (cy 1, 9, .inl f_1)), (a_18, .inl (cy 1, 6, .inl f_2)), (a_19, .inl (cy 1, 48, .inl f_3)), (a_20, .inl (cy 1, 30, .inl f_4)), (a_13, .inl (cy 5, 3, .inr (.inr (.inr (.inr (va_up (va_up (va_up (fun _ => none) 0 (some a_24)) 1 (some a_25)) 2 (some a_26))))))), (a_24, .inr (1, [.ref a_27, .ref a_28, .int i_10, .int i_11, .int i_12])), (a_27, .inl (cy 1, 2100, .inl f_5)), (a_25, .inr (1, [.ref a_29, .ref a_30, .int i_13, .int i_14, .int i_15])), (a_29, .inl (cy 1, 2100, .inl f_6)), (a_26, .inr (1, [.ref a_31, .ref a_32, .int i_16, .int i_17, .int i_18])), (a_31, .inl (cy 1, 2100, .inl f_7))] → va_S A s.heap H locs → ∀ (ls : Array Slot), lv_has ls 5 [(4, .int x32_4_52), (3, .int x32_3_53), (0, .ref a_0), (1, .int i_0), (2, .int i_1)] → W p l e R s m args below meth c H locs 0 0 Q (F0 m 32 ls []) := by
            intro n
            induction n with
            | zero => intro x32_4_52 x32_3_53 rx32_4_52 hm; exact absurd hm (Nat.not_lt_zero _)
            | succ n ih32 =>
              intro x32_4_52 x32_3_53 rx32_4_52 hm32 H locs hP hD hS ls hl
              refine lv_iload hx hb dX11_all_32 (lv_at hl 0 rfl) ?_
              refine lv_aload_n hx hb dX11_all_34 rfl (lv_at hl 2 rfl) ?_
              refine va_get (D := G) (ci := 11) (v := .ref a_3) (C := RX11) (T := TX11) (N := 11) hx hb hts (mm_i inlX11) hown hK.1 hP 0 rfl rfl 2 (by decide) (mm_h hts mm_w24) (fun _ h9 => h9) rfl dX11_all_35 ?_
              refine va_get (D := G) (ci := 10) (v := .ref a_12) (C := RX10) (T := TX10) (N := 2) hx hb hts (mm_i inlX10) hown hK.1 hP 1 rfl rfl 0 (by decide) (mm_h hts mm_w199) (fun _ h9 => h9) rfl dX11_all_38 ?_
              refine va_get (D := G) (ci := 0) (v := .int i_8) (C := RX0) (T := TX0) (N := 18) hx hb hts (mm_i inlX0) hown hK.1 hP 2 rfl rfl 6 (by decide) (mm_h hts mm_w604) (fun _ h9 => h9) rfl dX11_all_41 ?_
              refine lv_icmp_ge (tgt := 66) hx hb dX11_all_44 (by decide) (fun c55 => ?_) (fun c55 => ?_)
              · refine lv_iload_n hx hb dX11_all_66 rfl (lv_at hl 1 rfl) ?_
                subst hAe
                rw [hQ]
                exact W.iret (v := x32_3_53) hx hb hr (fun t ht hW => ⟨⟨x32_3_53, (), rfl, trivial, by rw [ht]; exact hP, hK.warm hW, hD⟩, hS.F ht⟩) hS.2.2 dX11_all_67
              · have q56 := mm_ltL (h := 5) (mm_nle c55) rx32_4_52 h3 (by decide)
                have q57 := mm_ltR (lo := 1) (mm_nle c55) rx32_4_52 h3 (by decide)
                refine lv_aload_n hx hb dX11_all_47 rfl (lv_at hl 2 rfl) ?_
                refine va_get (D := G) (ci := 11) (v := .ref a_3) (C := RX11) (T := TX11) (N := 11) hx hb hts (mm_i inlX11) hown hK.1 hP 0 rfl rfl 2 (by decide) (mm_h hts mm_w24) (fun _ h9 => h9) rfl dX11_all_48 ?_
                refine lv_iload_n hx hb dX11_all_51 rfl (lv_at hl 1 rfl) ?_
                refine lv_iload_n hx hb dX11_all_52 rfl (lv_at hl 3 rfl) ?_
                refine lv_iload_n hx hb dX11_all_53 rfl (lv_at hl 4 rfl) ?_
                refine lv_iload hx hb dX11_all_54 (lv_at hl 0 rfl) ?_
                refine mm_finir (va_runV (As := [.int x32_3_53, .int i_0, .int i_1, .int x32_4_52]) (rest := []) ⟨hx, hb, hml, hown, hts⟩ (K373_X10_leavingFrom l G cy H.size a_3 x32_3_53 i_0 i_1 x32_4_52 a_12 a_13 i_2 i_3 i_4 i_5 i_6 i_7 i_8 i_9 a_14 a_15 a_16 a_17 a_18 a_19 a_20 a_21 a_22 a_23 f_0 f_1 f_2 f_3 f_4 a_24 a_25 a_26 a_27 a_28 i_10 i_11 i_12 f_5 a_29 a_30 i_13 i_14 i_15 f_6 a_31 a_32 i_16 i_17 i_18 f_7 w3 (mm_wk w9 (by decide)) q56 h1 h4 h5 h6 h7 h8 h9 h10 h11 h12 h13 h14) (cwV 4 hts (mm_gV mm_w1096 mm_w835 mm_w836 mm_w23 mm_w837) rfl rfl rfl hd_X10_leavingFrom ⟨by rw [hRf]; exact Nat.le_of_ble_eq_true rfl, by rw [hRl]; exact Nat.le_of_ble_eq_true rfl⟩) (mm_preV hK hZ hS hA hP hD [1, 2, 3, 4, 5, 6, 7, 8, 9, 10, 11, 12, 13, 14] rfl rfl 1 rfl rfl rfl) rfl rfl hl.1 rfl (lv_room (Nat.le_of_ble_eq_true rfl)) dX11_all_56 ⟨by rw [hRc]; exact Nat.le_of_ble_eq_true rfl, by rw [hRs]; exact Nat.le_of_ble_eq_true rfl⟩) hP hD hS hA [1, 2, 3, 4, 5, 6, 7, 8, 9, 10, 11, 12, 13, 14] rfl (fun _ => rfl) ?_
                clear hP hD hS
                clear H locs
                intro v58 _u H locs hw hP hD hS
                refine lv_istore_n (lv' := [(3, .int v58), (4, .int x32_4_52), (0, .ref a_0), (1, .int i_0), (2, .int i_1)]) hx hb dX11_all_59 rfl hl (by decide) rfl ?_
                clear hl
                clear ls
                intro ls hl
                obtain ⟨v59, ev59⟩ : ∃ y : Int32, y = x32_4_52 + 1 := ⟨_, rfl⟩
                refine lv_iinc (v := v59) (lv' := [(4, .int v59), (3, .int v58), (0, .ref a_0), (1, .int i_0), (2, .int i_1)]) hx hb dX11_all_60 hl (k := 1) rfl (by rw [ev59]; rfl) (by decide) rfl ?_
                clear hl
                clear ls
                intro ls hl
                have rv59 : mm_rg v59 1 6 := mm_add ev59 q56 mm_k1 (by decide) (by decide)
                have tv59 := mm_addEc ev59 q56 mm_k1 (by decide) (k := 1) (by decide)
                refine lv_goto (tgt := 32) hx hb dX11_all_63 (by decide) ?_
                exact ih32 v59 v58 (mm_wk rv59 (by decide)) (mm_mu hm32 tv59 (by decide) (rv59).2 (by decide)) H locs hP hD hS ls (lv_sub hl [0, 1, 2, 3, 4] rfl)
          exact L32_53 _ 0 i_5 (mm_wk mm_k0 (by decide)) (Nat.lt_succ_self _) H locs hP hD hS ls (lv_sub hl [0, 1, 2, 3, 4] rfl)
        · exact mm_eqN c12.symm mm_k0 mm_k1 (by decide)

