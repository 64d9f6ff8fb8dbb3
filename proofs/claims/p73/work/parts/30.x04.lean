theorem dJ6_bitCount_0f7a4_0 : decode cJ6_bitCount_0f7a4 0 = .ok (.iload_n 0, 1) := by decide +kernel
theorem dJ6_bitCount_0f7a4_1 : decode cJ6_bitCount_0f7a4 1 = .ok (.iload_n 0, 1) := by decide +kernel
theorem dJ6_bitCount_0f7a4_2 : decode cJ6_bitCount_0f7a4 2 = .ok (.iconst 1, 1) := by decide +kernel
theorem dJ6_bitCount_0f7a4_3 : decode cJ6_bitCount_0f7a4 3 = .ok (.iushr, 1) := by decide +kernel
theorem dJ6_bitCount_0f7a4_4 : decode cJ6_bitCount_0f7a4 4 = .ok (.ldc_w 265, 3) := by decide +kernel
theorem dJ6_bitCount_0f7a4_7 : decode cJ6_bitCount_0f7a4 7 = .ok (.iand, 1) := by decide +kernel
theorem dJ6_bitCount_0f7a4_8 : decode cJ6_bitCount_0f7a4 8 = .ok (.isub, 1) := by decide +kernel
theorem dJ6_bitCount_0f7a4_9 : decode cJ6_bitCount_0f7a4 9 = .ok (.istore_n 0, 1) := by decide +kernel
theorem dJ6_bitCount_0f7a4_10 : decode cJ6_bitCount_0f7a4 10 = .ok (.iload_n 0, 1) := by decide +kernel
theorem dJ6_bitCount_0f7a4_11 : decode cJ6_bitCount_0f7a4 11 = .ok (.ldc_w 266, 3) := by decide +kernel
theorem dJ6_bitCount_0f7a4_14 : decode cJ6_bitCount_0f7a4 14 = .ok (.iand, 1) := by decide +kernel
theorem dJ6_bitCount_0f7a4_15 : decode cJ6_bitCount_0f7a4 15 = .ok (.iload_n 0, 1) := by decide +kernel
theorem dJ6_bitCount_0f7a4_16 : decode cJ6_bitCount_0f7a4 16 = .ok (.iconst 2, 1) := by decide +kernel
theorem dJ6_bitCount_0f7a4_17 : decode cJ6_bitCount_0f7a4 17 = .ok (.iushr, 1) := by decide +kernel
theorem dJ6_bitCount_0f7a4_18 : decode cJ6_bitCount_0f7a4 18 = .ok (.ldc_w 266, 3) := by decide +kernel
theorem dJ6_bitCount_0f7a4_21 : decode cJ6_bitCount_0f7a4 21 = .ok (.iand, 1) := by decide +kernel
theorem dJ6_bitCount_0f7a4_22 : decode cJ6_bitCount_0f7a4 22 = .ok (.iadd, 1) := by decide +kernel
theorem dJ6_bitCount_0f7a4_23 : decode cJ6_bitCount_0f7a4 23 = .ok (.istore_n 0, 1) := by decide +kernel
theorem dJ6_bitCount_0f7a4_24 : decode cJ6_bitCount_0f7a4 24 = .ok (.iload_n 0, 1) := by decide +kernel
theorem dJ6_bitCount_0f7a4_25 : decode cJ6_bitCount_0f7a4 25 = .ok (.iload_n 0, 1) := by decide +kernel
theorem dJ6_bitCount_0f7a4_26 : decode cJ6_bitCount_0f7a4 26 = .ok (.iconst 4, 1) := by decide +kernel
theorem dJ6_bitCount_0f7a4_27 : decode cJ6_bitCount_0f7a4 27 = .ok (.iushr, 1) := by decide +kernel
theorem dJ6_bitCount_0f7a4_28 : decode cJ6_bitCount_0f7a4 28 = .ok (.iadd, 1) := by decide +kernel
theorem dJ6_bitCount_0f7a4_29 : decode cJ6_bitCount_0f7a4 29 = .ok (.ldc_w 267, 3) := by decide +kernel
theorem dJ6_bitCount_0f7a4_32 : decode cJ6_bitCount_0f7a4 32 = .ok (.iand, 1) := by decide +kernel
theorem dJ6_bitCount_0f7a4_33 : decode cJ6_bitCount_0f7a4 33 = .ok (.istore_n 0, 1) := by decide +kernel
theorem dJ6_bitCount_0f7a4_34 : decode cJ6_bitCount_0f7a4 34 = .ok (.iload_n 0, 1) := by decide +kernel
theorem dJ6_bitCount_0f7a4_35 : decode cJ6_bitCount_0f7a4 35 = .ok (.iload_n 0, 1) := by decide +kernel
theorem dJ6_bitCount_0f7a4_36 : decode cJ6_bitCount_0f7a4 36 = .ok (.bipush 8, 2) := by decide +kernel
theorem dJ6_bitCount_0f7a4_38 : decode cJ6_bitCount_0f7a4 38 = .ok (.iushr, 1) := by decide +kernel
theorem dJ6_bitCount_0f7a4_39 : decode cJ6_bitCount_0f7a4 39 = .ok (.iadd, 1) := by decide +kernel
theorem dJ6_bitCount_0f7a4_40 : decode cJ6_bitCount_0f7a4 40 = .ok (.istore_n 0, 1) := by decide +kernel
theorem dJ6_bitCount_0f7a4_41 : decode cJ6_bitCount_0f7a4 41 = .ok (.iload_n 0, 1) := by decide +kernel
theorem dJ6_bitCount_0f7a4_42 : decode cJ6_bitCount_0f7a4 42 = .ok (.iload_n 0, 1) := by decide +kernel
theorem dJ6_bitCount_0f7a4_43 : decode cJ6_bitCount_0f7a4 43 = .ok (.bipush 16, 2) := by decide +kernel
theorem dJ6_bitCount_0f7a4_45 : decode cJ6_bitCount_0f7a4 45 = .ok (.iushr, 1) := by decide +kernel
theorem dJ6_bitCount_0f7a4_46 : decode cJ6_bitCount_0f7a4 46 = .ok (.iadd, 1) := by decide +kernel
theorem dJ6_bitCount_0f7a4_47 : decode cJ6_bitCount_0f7a4 47 = .ok (.istore_n 0, 1) := by decide +kernel
theorem dJ6_bitCount_0f7a4_48 : decode cJ6_bitCount_0f7a4 48 = .ok (.iload_n 0, 1) := by decide +kernel
theorem dJ6_bitCount_0f7a4_49 : decode cJ6_bitCount_0f7a4 49 = .ok (.bipush 63, 2) := by decide +kernel
theorem dJ6_bitCount_0f7a4_51 : decode cJ6_bitCount_0f7a4 51 = .ok (.iand, 1) := by decide +kernel
theorem dJ6_bitCount_0f7a4_52 : decode cJ6_bitCount_0f7a4 52 = .ok (.ireturn, 1) := by decide +kernel
theorem dX0_wordAt_0 : decode cX0_wordAt 0 = .ok (.aload_n 0, 1) := by decide +kernel
theorem dX0_wordAt_1 : decode cX0_wordAt 1 = .ok (.getfield 27, 3) := by decide +kernel
theorem dX0_wordAt_4 : decode cX0_wordAt 4 = .ok (.iload_n 1, 1) := by decide +kernel
theorem dX0_wordAt_5 : decode cX0_wordAt 5 = .ok (.bipush 8, 2) := by decide +kernel
theorem dX0_wordAt_7 : decode cX0_wordAt 7 = .ok (.imul, 1) := by decide +kernel
theorem dX0_wordAt_8 : decode cX0_wordAt 8 = .ok (.iload_n 2, 1) := by decide +kernel
theorem dX0_wordAt_9 : decode cX0_wordAt 9 = .ok (.iadd, 1) := by decide +kernel
theorem dX0_wordAt_10 : decode cX0_wordAt 10 = .ok (.iaload, 1) := by decide +kernel
theorem dX0_wordAt_11 : decode cX0_wordAt 11 = .ok (.ireturn, 1) := by decide +kernel
theorem dX10_after_0 : decode cX10_after 0 = .ok (.iload_n 1, 1) := by decide +kernel
theorem dX10_after_1 : decode cX10_after 1 = .ok (.sipush 20000, 3) := by decide +kernel
theorem dX10_after_4 : decode cX10_after 4 = .ok (.if_icmp .lt 5, 3) := by decide +kernel
theorem dX10_after_7 : decode cX10_after 7 = .ok (.iload_n 1, 1) := by decide +kernel
theorem dX10_after_8 : decode cX10_after 8 = .ok (.ireturn, 1) := by decide +kernel
theorem dX10_after_9 : decode cX10_after 9 = .ok (.iload_n 1, 1) := by decide +kernel
theorem dX10_after_10 : decode cX10_after 10 = .ok (.sipush 10000, 3) := by decide +kernel
theorem dX10_after_13 : decode cX10_after 13 = .ok (.if_icmp .lt 9, 3) := by decide +kernel
theorem dX10_after_16 : decode cX10_after 16 = .ok (.iload_n 1, 1) := by decide +kernel
theorem dX10_after_17 : decode cX10_after 17 = .ok (.sipush 10000, 3) := by decide +kernel
theorem dX10_after_20 : decode cX10_after 20 = .ok (.isub, 1) := by decide +kernel
theorem dX10_after_21 : decode cX10_after 21 = .ok (.ireturn, 1) := by decide +kernel
theorem dX10_after_22 : decode cX10_after 22 = .ok (.iload_n 2, 1) := by decide +kernel
theorem dX10_after_23 : decode cX10_after 23 = .ok (.aload_n 0, 1) := by decide +kernel
theorem dX10_after_24 : decode cX10_after 24 = .ok (.getfield 12, 3) := by decide +kernel
theorem dX10_after_27 : decode cX10_after 27 = .ok (.getfield 48, 3) := by decide +kernel
theorem dX10_after_30 : decode cX10_after 30 = .ok (.if_icmp .lt 5, 3) := by decide +kernel
theorem dX10_after_33 : decode cX10_after 33 = .ok (.iload_n 1, 1) := by decide +kernel
theorem dX10_after_34 : decode cX10_after 34 = .ok (.ireturn, 1) := by decide +kernel
theorem dX10_after_35 : decode cX10_after 35 = .ok (.aload_n 0, 1) := by decide +kernel
theorem dX10_after_36 : decode cX10_after 36 = .ok (.getfield 12, 3) := by decide +kernel
theorem dX10_after_39 : decode cX10_after 39 = .ok (.getfield 62, 3) := by decide +kernel
theorem dX10_after_42 : decode cX10_after 42 = .ok (.iload_n 2, 1) := by decide +kernel
theorem dX10_after_43 : decode cX10_after 43 = .ok (.iaload, 1) := by decide +kernel
theorem dX10_after_44 : decode cX10_after 44 = .ok (.tableswitch 92 0 4 #[36, 54, 70, 80, 86], 36) := by decide +kernel
theorem dX10_after_80 : decode cX10_after 80 = .ok (.sipush 9999, 3) := by decide +kernel
theorem dX10_after_83 : decode cX10_after 83 = .ok (.iload_n 1, 1) := by decide +kernel
theorem dX10_after_84 : decode cX10_after 84 = .ok (.aload_n 0, 1) := by decide +kernel
theorem dX10_after_85 : decode cX10_after 85 = .ok (.getfield 12, 3) := by decide +kernel
theorem dX10_after_88 : decode cX10_after 88 = .ok (.getfield 65, 3) := by decide +kernel
theorem dX10_after_91 : decode cX10_after 91 = .ok (.iload_n 2, 1) := by decide +kernel
theorem dX10_after_92 : decode cX10_after 92 = .ok (.iaload, 1) := by decide +kernel
theorem dX10_after_93 : decode cX10_after 93 = .ok (.iadd, 1) := by decide +kernel
theorem dX10_after_94 : decode cX10_after 94 = .ok (.invokestatic 68, 3) := by decide +kernel
theorem dX10_after_97 : decode cX10_after 97 = .ok (.ireturn, 1) := by decide +kernel
theorem dX10_after_98 : decode cX10_after 98 = .ok (.iconst 0, 1) := by decide +kernel
theorem dX10_after_99 : decode cX10_after 99 = .ok (.iload_n 1, 1) := by decide +kernel
theorem dX10_after_100 : decode cX10_after 100 = .ok (.aload_n 0, 1) := by decide +kernel
theorem dX10_after_101 : decode cX10_after 101 = .ok (.getfield 12, 3) := by decide +kernel
theorem dX10_after_104 : decode cX10_after 104 = .ok (.getfield 65, 3) := by decide +kernel
theorem dX10_after_107 : decode cX10_after 107 = .ok (.iload_n 2, 1) := by decide +kernel
theorem dX10_after_108 : decode cX10_after 108 = .ok (.iaload, 1) := by decide +kernel
theorem dX10_after_109 : decode cX10_after 109 = .ok (.isub, 1) := by decide +kernel
theorem dX10_after_110 : decode cX10_after 110 = .ok (.invokestatic 73, 3) := by decide +kernel
theorem dX10_after_113 : decode cX10_after 113 = .ok (.ireturn, 1) := by decide +kernel
theorem dX10_after_114 : decode cX10_after 114 = .ok (.sipush 9999, 3) := by decide +kernel
theorem dX10_after_117 : decode cX10_after 117 = .ok (.iconst 2, 1) := by decide +kernel
theorem dX10_after_118 : decode cX10_after 118 = .ok (.iload_n 1, 1) := by decide +kernel
theorem dX10_after_119 : decode cX10_after 119 = .ok (.imul, 1) := by decide +kernel
theorem dX10_after_120 : decode cX10_after 120 = .ok (.invokestatic 68, 3) := by decide +kernel
theorem dX10_after_123 : decode cX10_after 123 = .ok (.ireturn, 1) := by decide +kernel
theorem dX10_after_124 : decode cX10_after 124 = .ok (.iload_n 1, 1) := by decide +kernel
theorem dX10_after_125 : decode cX10_after 125 = .ok (.sipush 20000, 3) := by decide +kernel
theorem dX10_after_128 : decode cX10_after 128 = .ok (.iadd, 1) := by decide +kernel
theorem dX10_after_129 : decode cX10_after 129 = .ok (.ireturn, 1) := by decide +kernel
theorem dX10_after_130 : decode cX10_after 130 = .ok (.iload_n 1, 1) := by decide +kernel
theorem dX10_after_131 : decode cX10_after 131 = .ok (.sipush 10000, 3) := by decide +kernel
theorem dX10_after_134 : decode cX10_after 134 = .ok (.iadd, 1) := by decide +kernel
theorem dX10_after_135 : decode cX10_after 135 = .ok (.ireturn, 1) := by decide +kernel
theorem dX10_after_136 : decode cX10_after 136 = .ok (.iload_n 1, 1) := by decide +kernel
theorem dX10_after_137 : decode cX10_after 137 = .ok (.ireturn, 1) := by decide +kernel
theorem dX10_daysOfMeaning_0 : decode cX10_daysOfMeaning 0 = .ok (.iconst 0, 1) := by decide +kernel
theorem dX10_daysOfMeaning_1 : decode cX10_daysOfMeaning 1 = .ok (.istore 4, 2) := by decide +kernel
theorem dX10_daysOfMeaning_3 : decode cX10_daysOfMeaning 3 = .ok (.iconst 0, 1) := by decide +kernel
theorem dX10_daysOfMeaning_4 : decode cX10_daysOfMeaning 4 = .ok (.istore 5, 2) := by decide +kernel
theorem dX10_daysOfMeaning_6 : decode cX10_daysOfMeaning 6 = .ok (.iload 5, 2) := by decide +kernel
theorem dX10_daysOfMeaning_8 : decode cX10_daysOfMeaning 8 = .ok (.aload_n 0, 1) := by decide +kernel
theorem dX10_daysOfMeaning_9 : decode cX10_daysOfMeaning 9 = .ok (.iload_n 1, 1) := by decide +kernel
theorem dX10_daysOfMeaning_10 : decode cX10_daysOfMeaning 10 = .ok (.invokevirtual 55, 3) := by decide +kernel
theorem dX10_daysOfMeaning_13 : decode cX10_daysOfMeaning 13 = .ok (.if_icmp .ge 24, 3) := by decide +kernel
theorem dX10_daysOfMeaning_16 : decode cX10_daysOfMeaning 16 = .ok (.aload_n 0, 1) := by decide +kernel
theorem dX10_daysOfMeaning_17 : decode cX10_daysOfMeaning 17 = .ok (.iload_n 1, 1) := by decide +kernel
theorem dX10_daysOfMeaning_18 : decode cX10_daysOfMeaning 18 = .ok (.iload 5, 2) := by decide +kernel
theorem dX10_daysOfMeaning_20 : decode cX10_daysOfMeaning 20 = .ok (.iload_n 2, 1) := by decide +kernel
theorem dX10_daysOfMeaning_21 : decode cX10_daysOfMeaning 21 = .ok (.invokevirtual 51, 3) := by decide +kernel
theorem dX10_daysOfMeaning_24 : decode cX10_daysOfMeaning 24 = .ok (.iload_n 3, 1) := by decide +kernel
theorem dX10_daysOfMeaning_25 : decode cX10_daysOfMeaning 25 = .ok (.if_icmp .ne 6, 3) := by decide +kernel
theorem dX10_daysOfMeaning_28 : decode cX10_daysOfMeaning 28 = .ok (.iinc 4 1, 3) := by decide +kernel
theorem dX10_daysOfMeaning_31 : decode cX10_daysOfMeaning 31 = .ok (.iinc 5 1, 3) := by decide +kernel
theorem dX10_daysOfMeaning_34 : decode cX10_daysOfMeaning 34 = .ok (.goto (-28), 3) := by decide +kernel
theorem dX10_daysOfMeaning_37 : decode cX10_daysOfMeaning 37 = .ok (.iload 4, 2) := by decide +kernel
theorem dX10_daysOfMeaning_39 : decode cX10_daysOfMeaning 39 = .ok (.ireturn, 1) := by decide +kernel
theorem dX10_leaving_0 : decode cX10_leaving 0 = .ok (.aload_n 0, 1) := by decide +kernel
theorem dX10_leaving_1 : decode cX10_leaving 1 = .ok (.aload_n 0, 1) := by decide +kernel
theorem dX10_leaving_2 : decode cX10_leaving 2 = .ok (.getfield 12, 3) := by decide +kernel
theorem dX10_leaving_5 : decode cX10_leaving 5 = .ok (.getfield 76, 3) := by decide +kernel
theorem dX10_leaving_8 : decode cX10_leaving 8 = .ok (.iload_n 1, 1) := by decide +kernel
theorem dX10_leaving_9 : decode cX10_leaving 9 = .ok (.iload_n 2, 1) := by decide +kernel
theorem dX10_leaving_10 : decode cX10_leaving 10 = .ok (.iload_n 3, 1) := by decide +kernel
theorem dX10_leaving_11 : decode cX10_leaving 11 = .ok (.invokevirtual 79, 3) := by decide +kernel
theorem dX10_leaving_14 : decode cX10_leaving 14 = .ok (.ireturn, 1) := by decide +kernel
theorem dX10_leavingFrom_0 : decode cX10_leavingFrom 0 = .ok (.iload_n 1, 1) := by decide +kernel
theorem dX10_leavingFrom_1 : decode cX10_leavingFrom 1 = .ok (.istore 5, 2) := by decide +kernel
theorem dX10_leavingFrom_3 : decode cX10_leavingFrom 3 = .ok (.iconst 0, 1) := by decide +kernel
theorem dX10_leavingFrom_4 : decode cX10_leavingFrom 4 = .ok (.istore 6, 2) := by decide +kernel
theorem dX10_leavingFrom_6 : decode cX10_leavingFrom 6 = .ok (.iload 6, 2) := by decide +kernel
theorem dX10_leavingFrom_8 : decode cX10_leavingFrom 8 = .ok (.aload_n 0, 1) := by decide +kernel
theorem dX10_leavingFrom_9 : decode cX10_leavingFrom 9 = .ok (.getfield 12, 3) := by decide +kernel
theorem dX10_leavingFrom_12 : decode cX10_leavingFrom 12 = .ok (.getfield 82, 3) := by decide +kernel
theorem dX10_leavingFrom_15 : decode cX10_leavingFrom 15 = .ok (.iload 4, 2) := by decide +kernel
theorem dX10_leavingFrom_17 : decode cX10_leavingFrom 17 = .ok (.iaload, 1) := by decide +kernel
theorem dX10_leavingFrom_18 : decode cX10_leavingFrom 18 = .ok (.if_icmp .ge 42, 3) := by decide +kernel
theorem dX10_leavingFrom_21 : decode cX10_leavingFrom 21 = .ok (.iload 5, 2) := by decide +kernel
theorem dX10_leavingFrom_23 : decode cX10_leavingFrom 23 = .ok (.sipush 20000, 3) := by decide +kernel
theorem dX10_leavingFrom_26 : decode cX10_leavingFrom 26 = .ok (.if_icmp .ge 34, 3) := by decide +kernel
theorem dX10_leavingFrom_29 : decode cX10_leavingFrom 29 = .ok (.aload_n 0, 1) := by decide +kernel
theorem dX10_leavingFrom_30 : decode cX10_leavingFrom 30 = .ok (.iload 5, 2) := by decide +kernel
theorem dX10_leavingFrom_32 : decode cX10_leavingFrom 32 = .ok (.aload_n 0, 1) := by decide +kernel
theorem dX10_leavingFrom_33 : decode cX10_leavingFrom 33 = .ok (.iload_n 2, 1) := by decide +kernel
theorem dX10_leavingFrom_34 : decode cX10_leavingFrom 34 = .ok (.iload_n 3, 1) := by decide +kernel
theorem dX10_leavingFrom_35 : decode cX10_leavingFrom 35 = .ok (.aload_n 0, 1) := by decide +kernel
theorem dX10_leavingFrom_36 : decode cX10_leavingFrom 36 = .ok (.getfield 12, 3) := by decide +kernel
theorem dX10_leavingFrom_39 : decode cX10_leavingFrom 39 = .ok (.iload 4, 2) := by decide +kernel
theorem dX10_leavingFrom_41 : decode cX10_leavingFrom 41 = .ok (.iload 6, 2) := by decide +kernel
theorem dX10_leavingFrom_43 : decode cX10_leavingFrom 43 = .ok (.invokevirtual 85, 3) := by decide +kernel
theorem dX10_leavingFrom_46 : decode cX10_leavingFrom 46 = .ok (.invokevirtual 51, 3) := by decide +kernel
theorem dX10_leavingFrom_49 : decode cX10_leavingFrom 49 = .ok (.invokevirtual 88, 3) := by decide +kernel
theorem dX10_leavingFrom_52 : decode cX10_leavingFrom 52 = .ok (.istore 5, 2) := by decide +kernel
theorem dX10_leavingFrom_54 : decode cX10_leavingFrom 54 = .ok (.iinc 6 1, 3) := by decide +kernel
theorem dX10_leavingFrom_57 : decode cX10_leavingFrom 57 = .ok (.goto (-51), 3) := by decide +kernel
theorem dX10_leavingFrom_60 : decode cX10_leavingFrom 60 = .ok (.iload 5, 2) := by decide +kernel
theorem dX10_leavingFrom_62 : decode cX10_leavingFrom 62 = .ok (.sipush 10000, 3) := by decide +kernel
theorem dX10_leavingFrom_65 : decode cX10_leavingFrom 65 = .ok (.irem, 1) := by decide +kernel
theorem dX10_leavingFrom_66 : decode cX10_leavingFrom 66 = .ok (.ireturn, 1) := by decide +kernel
theorem dX10_meaning_0 : decode cX10_meaning 0 = .ok (.aload_n 0, 1) := by decide +kernel
theorem dX10_meaning_1 : decode cX10_meaning 1 = .ok (.getfield 12, 3) := by decide +kernel
theorem dX10_meaning_4 : decode cX10_meaning 4 = .ok (.getfield 40, 3) := by decide +kernel
theorem dX10_meaning_7 : decode cX10_meaning 7 = .ok (.iload_n 1, 1) := by decide +kernel
theorem dX10_meaning_8 : decode cX10_meaning 8 = .ok (.bipush 10, 2) := by decide +kernel
theorem dX10_meaning_10 : decode cX10_meaning 10 = .ok (.imul, 1) := by decide +kernel
theorem dX10_meaning_11 : decode cX10_meaning 11 = .ok (.aload_n 0, 1) := by decide +kernel
theorem dX10_meaning_12 : decode cX10_meaning 12 = .ok (.getfield 20, 3) := by decide +kernel
theorem dX10_meaning_15 : decode cX10_meaning 15 = .ok (.iload_n 1, 1) := by decide +kernel
theorem dX10_meaning_16 : decode cX10_meaning 16 = .ok (.aaload, 1) := by decide +kernel
theorem dX10_meaning_17 : decode cX10_meaning 17 = .ok (.iload_n 2, 1) := by decide +kernel
theorem dX10_meaning_18 : decode cX10_meaning 18 = .ok (.iload_n 3, 1) := by decide +kernel
theorem dX10_meaning_19 : decode cX10_meaning 19 = .ok (.invokevirtual 44, 3) := by decide +kernel
theorem dX10_meaning_22 : decode cX10_meaning 22 = .ok (.iadd, 1) := by decide +kernel
theorem dX10_meaning_23 : decode cX10_meaning 23 = .ok (.iaload, 1) := by decide +kernel
theorem dX10_meaning_24 : decode cX10_meaning 24 = .ok (.ireturn, 1) := by decide +kernel
theorem dX10_period_0 : decode cX10_period 0 = .ok (.aload_n 0, 1) := by decide +kernel
theorem dX10_period_1 : decode cX10_period 1 = .ok (.getfield 20, 3) := by decide +kernel
theorem dX10_period_4 : decode cX10_period 4 = .ok (.iload_n 1, 1) := by decide +kernel
theorem dX10_period_5 : decode cX10_period 5 = .ok (.aaload, 1) := by decide +kernel
theorem dX10_period_6 : decode cX10_period 6 = .ok (.getfield 37, 3) := by decide +kernel
theorem dX10_period_9 : decode cX10_period 9 = .ok (.ireturn, 1) := by decide +kernel
theorem dX10_placesRead_0 : decode cX10_placesRead 0 = .ok (.iconst 0, 1) := by decide +kernel
theorem dX10_placesRead_1 : decode cX10_placesRead 1 = .ok (.istore 4, 2) := by decide +kernel
theorem dX10_placesRead_3 : decode cX10_placesRead 3 = .ok (.aload_n 0, 1) := by decide +kernel
theorem dX10_placesRead_4 : decode cX10_placesRead 4 = .ok (.getfield 12, 3) := by decide +kernel
theorem dX10_placesRead_7 : decode cX10_placesRead 7 = .ok (.getfield 76, 3) := by decide +kernel
theorem dX10_placesRead_10 : decode cX10_placesRead 10 = .ok (.istore 5, 2) := by decide +kernel
theorem dX10_placesRead_12 : decode cX10_placesRead 12 = .ok (.iconst 0, 1) := by decide +kernel
theorem dX10_placesRead_13 : decode cX10_placesRead 13 = .ok (.istore 6, 2) := by decide +kernel
theorem dX10_placesRead_15 : decode cX10_placesRead 15 = .ok (.iload 6, 2) := by decide +kernel
theorem dX10_placesRead_17 : decode cX10_placesRead 17 = .ok (.aload_n 0, 1) := by decide +kernel
theorem dX10_placesRead_18 : decode cX10_placesRead 18 = .ok (.getfield 12, 3) := by decide +kernel
theorem dX10_placesRead_21 : decode cX10_placesRead 21 = .ok (.getfield 82, 3) := by decide +kernel
theorem dX10_placesRead_24 : decode cX10_placesRead 24 = .ok (.iload_n 3, 1) := by decide +kernel
theorem dX10_placesRead_25 : decode cX10_placesRead 25 = .ok (.iaload, 1) := by decide +kernel
theorem dX10_placesRead_26 : decode cX10_placesRead 26 = .ok (.if_icmp .ge 50, 3) := by decide +kernel
theorem dX10_placesRead_29 : decode cX10_placesRead 29 = .ok (.iload 5, 2) := by decide +kernel
theorem dX10_placesRead_31 : decode cX10_placesRead 31 = .ok (.sipush 10000, 3) := by decide +kernel
theorem dX10_placesRead_34 : decode cX10_placesRead 34 = .ok (.if_icmp .ge 12, 3) := by decide +kernel
theorem dX10_placesRead_37 : decode cX10_placesRead 37 = .ok (.iload 4, 2) := by decide +kernel
theorem dX10_placesRead_39 : decode cX10_placesRead 39 = .ok (.iconst 1, 1) := by decide +kernel
theorem dX10_placesRead_40 : decode cX10_placesRead 40 = .ok (.iload 6, 2) := by decide +kernel
theorem dX10_placesRead_42 : decode cX10_placesRead 42 = .ok (.ishl, 1) := by decide +kernel
theorem dX10_placesRead_43 : decode cX10_placesRead 43 = .ok (.ior, 1) := by decide +kernel
theorem dX10_placesRead_44 : decode cX10_placesRead 44 = .ok (.istore 4, 2) := by decide +kernel
theorem dX10_placesRead_46 : decode cX10_placesRead 46 = .ok (.aload_n 0, 1) := by decide +kernel
theorem dX10_placesRead_47 : decode cX10_placesRead 47 = .ok (.iload 5, 2) := by decide +kernel
theorem dX10_placesRead_49 : decode cX10_placesRead 49 = .ok (.aload_n 0, 1) := by decide +kernel
theorem dX10_placesRead_50 : decode cX10_placesRead 50 = .ok (.iload_n 1, 1) := by decide +kernel
theorem dX10_placesRead_51 : decode cX10_placesRead 51 = .ok (.iload_n 2, 1) := by decide +kernel
theorem dX10_placesRead_52 : decode cX10_placesRead 52 = .ok (.aload_n 0, 1) := by decide +kernel
theorem dX10_placesRead_53 : decode cX10_placesRead 53 = .ok (.getfield 12, 3) := by decide +kernel
theorem dX10_placesRead_56 : decode cX10_placesRead 56 = .ok (.iload_n 3, 1) := by decide +kernel
theorem dX10_placesRead_57 : decode cX10_placesRead 57 = .ok (.iload 6, 2) := by decide +kernel
theorem dX10_placesRead_59 : decode cX10_placesRead 59 = .ok (.invokevirtual 85, 3) := by decide +kernel
theorem dX10_placesRead_62 : decode cX10_placesRead 62 = .ok (.invokevirtual 51, 3) := by decide +kernel
theorem dX10_placesRead_65 : decode cX10_placesRead 65 = .ok (.invokevirtual 88, 3) := by decide +kernel
theorem dX10_placesRead_68 : decode cX10_placesRead 68 = .ok (.istore 5, 2) := by decide +kernel
theorem dX10_placesRead_70 : decode cX10_placesRead 70 = .ok (.iinc 6 1, 3) := by decide +kernel
theorem dX10_placesRead_73 : decode cX10_placesRead 73 = .ok (.goto (-58), 3) := by decide +kernel
theorem dX10_placesRead_76 : decode cX10_placesRead 76 = .ok (.iload 4, 2) := by decide +kernel
theorem dX10_placesRead_78 : decode cX10_placesRead 78 = .ok (.ireturn, 1) := by decide +kernel
theorem dX10_unlikeWords_0 : decode cX10_unlikeWords 0 = .ok (.iconst 0, 1) := by decide +kernel
theorem dX10_unlikeWords_1 : decode cX10_unlikeWords 1 = .ok (.istore 5, 2) := by decide +kernel
theorem dX10_unlikeWords_3 : decode cX10_unlikeWords 3 = .ok (.iconst 0, 1) := by decide +kernel
theorem dX10_unlikeWords_4 : decode cX10_unlikeWords 4 = .ok (.istore 6, 2) := by decide +kernel
theorem dX10_unlikeWords_6 : decode cX10_unlikeWords 6 = .ok (.iload 6, 2) := by decide +kernel
theorem dX10_unlikeWords_8 : decode cX10_unlikeWords 8 = .ok (.aload_n 0, 1) := by decide +kernel
theorem dX10_unlikeWords_9 : decode cX10_unlikeWords 9 = .ok (.getfield 12, 3) := by decide +kernel
theorem dX10_unlikeWords_12 : decode cX10_unlikeWords 12 = .ok (.getfield 48, 3) := by decide +kernel
theorem dX10_unlikeWords_15 : decode cX10_unlikeWords 15 = .ok (.if_icmp .gt 32, 3) := by decide +kernel
theorem dX10_unlikeWords_18 : decode cX10_unlikeWords 18 = .ok (.aload_n 0, 1) := by decide +kernel
theorem dX10_unlikeWords_19 : decode cX10_unlikeWords 19 = .ok (.iload_n 1, 1) := by decide +kernel
theorem dX10_unlikeWords_20 : decode cX10_unlikeWords 20 = .ok (.iload_n 2, 1) := by decide +kernel
theorem dX10_unlikeWords_21 : decode cX10_unlikeWords 21 = .ok (.iload 6, 2) := by decide +kernel
theorem dX10_unlikeWords_23 : decode cX10_unlikeWords 23 = .ok (.invokevirtual 51, 3) := by decide +kernel
theorem dX10_unlikeWords_26 : decode cX10_unlikeWords 26 = .ok (.aload_n 0, 1) := by decide +kernel
theorem dX10_unlikeWords_27 : decode cX10_unlikeWords 27 = .ok (.iload_n 3, 1) := by decide +kernel
theorem dX10_unlikeWords_28 : decode cX10_unlikeWords 28 = .ok (.iload 4, 2) := by decide +kernel
theorem dX10_unlikeWords_30 : decode cX10_unlikeWords 30 = .ok (.iload 6, 2) := by decide +kernel
theorem dX10_unlikeWords_32 : decode cX10_unlikeWords 32 = .ok (.invokevirtual 51, 3) := by decide +kernel
theorem dX10_unlikeWords_35 : decode cX10_unlikeWords 35 = .ok (.if_icmp .eq 6, 3) := by decide +kernel
theorem dX10_unlikeWords_38 : decode cX10_unlikeWords 38 = .ok (.iinc 5 1, 3) := by decide +kernel
theorem dX10_unlikeWords_41 : decode cX10_unlikeWords 41 = .ok (.iinc 6 1, 3) := by decide +kernel
theorem dX10_unlikeWords_44 : decode cX10_unlikeWords 44 = .ok (.goto (-38), 3) := by decide +kernel
theorem dX10_unlikeWords_47 : decode cX10_unlikeWords 47 = .ok (.iload 5, 2) := by decide +kernel
theorem dX10_unlikeWords_49 : decode cX10_unlikeWords 49 = .ok (.ireturn, 1) := by decide +kernel
theorem dX10_wordFor_0 : decode cX10_wordFor 0 = .ok (.iconst 0, 1) := by decide +kernel
theorem dX10_wordFor_1 : decode cX10_wordFor 1 = .ok (.istore 4, 2) := by decide +kernel
theorem dX10_wordFor_3 : decode cX10_wordFor 3 = .ok (.iconst 0, 1) := by decide +kernel
theorem dX10_wordFor_4 : decode cX10_wordFor 4 = .ok (.istore 5, 2) := by decide +kernel
theorem dX10_wordFor_6 : decode cX10_wordFor 6 = .ok (.iload 5, 2) := by decide +kernel
theorem dX10_wordFor_8 : decode cX10_wordFor 8 = .ok (.aload_n 0, 1) := by decide +kernel
theorem dX10_wordFor_9 : decode cX10_wordFor 9 = .ok (.getfield 12, 3) := by decide +kernel
theorem dX10_wordFor_12 : decode cX10_wordFor 12 = .ok (.getfield 48, 3) := by decide +kernel
theorem dX10_wordFor_15 : decode cX10_wordFor 15 = .ok (.if_icmp .gt 25, 3) := by decide +kernel
theorem dX10_wordFor_18 : decode cX10_wordFor 18 = .ok (.aload_n 0, 1) := by decide +kernel
theorem dX10_wordFor_19 : decode cX10_wordFor 19 = .ok (.iload_n 1, 1) := by decide +kernel
theorem dX10_wordFor_20 : decode cX10_wordFor 20 = .ok (.iload_n 2, 1) := by decide +kernel
theorem dX10_wordFor_21 : decode cX10_wordFor 21 = .ok (.iload 5, 2) := by decide +kernel
theorem dX10_wordFor_23 : decode cX10_wordFor 23 = .ok (.invokevirtual 51, 3) := by decide +kernel
theorem dX10_wordFor_26 : decode cX10_wordFor 26 = .ok (.iload_n 3, 1) := by decide +kernel
theorem dX10_wordFor_27 : decode cX10_wordFor 27 = .ok (.if_icmp .ne 7, 3) := by decide +kernel
theorem dX10_wordFor_30 : decode cX10_wordFor 30 = .ok (.iload 5, 2) := by decide +kernel
theorem dX10_wordFor_32 : decode cX10_wordFor 32 = .ok (.istore 4, 2) := by decide +kernel
theorem dX10_wordFor_34 : decode cX10_wordFor 34 = .ok (.iinc 5 1, 3) := by decide +kernel
theorem dX10_wordFor_37 : decode cX10_wordFor 37 = .ok (.goto (-31), 3) := by decide +kernel
theorem dX10_wordFor_40 : decode cX10_wordFor 40 = .ok (.iload 4, 2) := by decide +kernel
theorem dX10_wordFor_42 : decode cX10_wordFor 42 = .ok (.ireturn, 1) := by decide +kernel
theorem dX11_book_0 : decode cX11_book 0 = .ok (.aload_n 0, 1) := by decide +kernel
theorem dX11_book_1 : decode cX11_book 1 = .ok (.getfield 21, 3) := by decide +kernel
theorem dX11_book_4 : decode cX11_book 4 = .ok (.invokevirtual 97, 3) := by decide +kernel
theorem dX11_book_7 : decode cX11_book 7 = .ok (.ifCond .ne 6, 3) := by decide +kernel
theorem dX11_book_10 : decode cX11_book 10 = .ok (.bipush (-4), 2) := by decide +kernel
theorem dX11_book_12 : decode cX11_book 12 = .ok (.ireturn, 1) := by decide +kernel
theorem dX11_book_13 : decode cX11_book 13 = .ok (.aload_n 0, 1) := by decide +kernel
theorem dX11_book_14 : decode cX11_book 14 = .ok (.getfield 10, 3) := by decide +kernel
theorem dX11_book_17 : decode cX11_book 17 = .ok (.iconst 0, 1) := by decide +kernel
theorem dX11_book_18 : decode cX11_book 18 = .ok (.putfield 89, 3) := by decide +kernel
theorem dX11_book_21 : decode cX11_book 21 = .ok (.aload_n 0, 1) := by decide +kernel
theorem dX11_book_22 : decode cX11_book 22 = .ok (.getfield 28, 3) := by decide +kernel
theorem dX11_book_25 : decode cX11_book 25 = .ok (.aload_n 0, 1) := by decide +kernel
theorem dX11_book_26 : decode cX11_book 26 = .ok (.getfield 21, 3) := by decide +kernel
theorem dX11_book_29 : decode cX11_book 29 = .ok (.getfield 101, 3) := by decide +kernel
theorem dX11_book_32 : decode cX11_book 32 = .ok (.invokevirtual 105, 3) := by decide +kernel
theorem dX11_book_35 : decode cX11_book 35 = .ok (.aload_n 0, 1) := by decide +kernel
theorem dX11_book_36 : decode cX11_book 36 = .ok (.getfield 28, 3) := by decide +kernel
theorem dX11_book_39 : decode cX11_book 39 = .ok (.getfield 109, 3) := by decide +kernel
theorem dX11_book_42 : decode cX11_book 42 = .ok (.getfield 112, 3) := by decide +kernel
theorem dX11_book_45 : decode cX11_book 45 = .ok (.ireturn, 1) := by decide +kernel
theorem dX11_fault_0 : decode cX11_fault 0 = .ok (.iload_n 1, 1) := by decide +kernel
theorem dX11_fault_1 : decode cX11_fault 1 = .ok (.ifCond .ne 11, 3) := by decide +kernel
theorem dX11_fault_4 : decode cX11_fault 4 = .ok (.aload_n 0, 1) := by decide +kernel
theorem dX11_fault_5 : decode cX11_fault 5 = .ok (.getfield 21, 3) := by decide +kernel
theorem dX11_fault_8 : decode cX11_fault 8 = .ok (.getfield 115, 3) := by decide +kernel
theorem dX11_fault_11 : decode cX11_fault 11 = .ok (.ireturn, 1) := by decide +kernel
theorem dX11_fault_12 : decode cX11_fault 12 = .ok (.iload_n 1, 1) := by decide +kernel
theorem dX11_fault_13 : decode cX11_fault 13 = .ok (.iconst 1, 1) := by decide +kernel
theorem dX11_fault_14 : decode cX11_fault 14 = .ok (.if_icmp .ne 13, 3) := by decide +kernel
theorem dX11_fault_17 : decode cX11_fault 17 = .ok (.aload_n 0, 1) := by decide +kernel
theorem dX11_fault_18 : decode cX11_fault 18 = .ok (.getfield 21, 3) := by decide +kernel
theorem dX11_fault_21 : decode cX11_fault 21 = .ok (.getfield 118, 3) := by decide +kernel
theorem dX11_fault_24 : decode cX11_fault 24 = .ok (.goto 4, 3) := by decide +kernel
theorem dX11_fault_27 : decode cX11_fault 27 = .ok (.iconst (-1), 1) := by decide +kernel
theorem dX11_fault_28 : decode cX11_fault 28 = .ok (.ireturn, 1) := by decide +kernel
theorem dX11_heard_0 : decode cX11_heard 0 = .ok (.aload_n 0, 1) := by decide +kernel
theorem dX11_heard_1 : decode cX11_heard 1 = .ok (.iload_n 1, 1) := by decide +kernel
theorem dX11_heard_2 : decode cX11_heard 2 = .ok (.iload_n 2, 1) := by decide +kernel
theorem dX11_heard_3 : decode cX11_heard 3 = .ok (.iload_n 3, 1) := by decide +kernel
theorem dX11_heard_4 : decode cX11_heard 4 = .ok (.invokevirtual 191, 3) := by decide +kernel
theorem dX11_heard_7 : decode cX11_heard 7 = .ok (.ifCond .ne 6, 3) := by decide +kernel
theorem dX11_heard_10 : decode cX11_heard 10 = .ok (.bipush (-2), 2) := by decide +kernel
theorem dX11_heard_12 : decode cX11_heard 12 = .ok (.ireturn, 1) := by decide +kernel
theorem dX11_heard_13 : decode cX11_heard 13 = .ok (.aload_n 0, 1) := by decide +kernel
theorem dX11_heard_14 : decode cX11_heard 14 = .ok (.getfield 28, 3) := by decide +kernel
theorem dX11_heard_17 : decode cX11_heard 17 = .ok (.iload_n 1, 1) := by decide +kernel
theorem dX11_heard_18 : decode cX11_heard 18 = .ok (.iload_n 2, 1) := by decide +kernel
theorem dX11_heard_19 : decode cX11_heard 19 = .ok (.iload_n 3, 1) := by decide +kernel
theorem dX11_heard_20 : decode cX11_heard 20 = .ok (.invokevirtual 198, 3) := by decide +kernel
theorem dX11_heard_23 : decode cX11_heard 23 = .ok (.invokestatic 201, 3) := by decide +kernel
theorem dX11_heard_26 : decode cX11_heard 26 = .ok (.ireturn, 1) := by decide +kernel
theorem dX11_isDay_0 : decode cX11_isDay 0 = .ok (.iload_n 0, 1) := by decide +kernel
theorem dX11_isDay_1 : decode cX11_isDay 1 = .ok (.ifCond .lt 14, 3) := by decide +kernel
theorem dX11_isDay_4 : decode cX11_isDay 4 = .ok (.iload_n 0, 1) := by decide +kernel
theorem dX11_isDay_5 : decode cX11_isDay 5 = .ok (.ldc_w 257, 3) := by decide +kernel
theorem dX11_isDay_8 : decode cX11_isDay 8 = .ok (.if_icmp .gt 7, 3) := by decide +kernel
theorem dX11_isDay_11 : decode cX11_isDay 11 = .ok (.iconst 1, 1) := by decide +kernel
theorem dX11_isDay_12 : decode cX11_isDay 12 = .ok (.goto 4, 3) := by decide +kernel
theorem dX11_isDay_15 : decode cX11_isDay 15 = .ok (.iconst 0, 1) := by decide +kernel
theorem dX11_isDay_16 : decode cX11_isDay 16 = .ok (.ireturn, 1) := by decide +kernel
theorem dX11_isLand_0 : decode cX11_isLand 0 = .ok (.iload_n 1, 1) := by decide +kernel
theorem dX11_isLand_1 : decode cX11_isLand 1 = .ok (.ifCond .lt 21, 3) := by decide +kernel
theorem dX11_isLand_4 : decode cX11_isLand 4 = .ok (.iload_n 1, 1) := by decide +kernel
theorem dX11_isLand_5 : decode cX11_isLand 5 = .ok (.aload_n 0, 1) := by decide +kernel
theorem dX11_isLand_6 : decode cX11_isLand 6 = .ok (.getfield 28, 3) := by decide +kernel
theorem dX11_isLand_9 : decode cX11_isLand 9 = .ok (.getfield 109, 3) := by decide +kernel
theorem dX11_isLand_12 : decode cX11_isLand 12 = .ok (.getfield 309, 3) := by decide +kernel
theorem dX11_isLand_15 : decode cX11_isLand 15 = .ok (.if_icmp .ge 7, 3) := by decide +kernel
theorem dX11_isLand_18 : decode cX11_isLand 18 = .ok (.iconst 1, 1) := by decide +kernel
theorem dX11_isLand_19 : decode cX11_isLand 19 = .ok (.goto 4, 3) := by decide +kernel
theorem dX11_isLand_22 : decode cX11_isLand 22 = .ok (.iconst 0, 1) := by decide +kernel
theorem dX11_isLand_23 : decode cX11_isLand 23 = .ok (.ireturn, 1) := by decide +kernel
theorem dX11_isMeaning_0 : decode cX11_isMeaning 0 = .ok (.iload_n 1, 1) := by decide +kernel
theorem dX11_isMeaning_1 : decode cX11_isMeaning 1 = .ok (.ifCond .lt 21, 3) := by decide +kernel
theorem dX11_isMeaning_4 : decode cX11_isMeaning 4 = .ok (.iload_n 1, 1) := by decide +kernel
theorem dX11_isMeaning_5 : decode cX11_isMeaning 5 = .ok (.aload_n 0, 1) := by decide +kernel
theorem dX11_isMeaning_6 : decode cX11_isMeaning 6 = .ok (.getfield 28, 3) := by decide +kernel
theorem dX11_isMeaning_9 : decode cX11_isMeaning 9 = .ok (.getfield 109, 3) := by decide +kernel
theorem dX11_isMeaning_12 : decode cX11_isMeaning 12 = .ok (.getfield 180, 3) := by decide +kernel
theorem dX11_isMeaning_15 : decode cX11_isMeaning 15 = .ok (.if_icmp .gt 7, 3) := by decide +kernel
theorem dX11_isMeaning_18 : decode cX11_isMeaning 18 = .ok (.iconst 1, 1) := by decide +kernel
theorem dX11_isMeaning_19 : decode cX11_isMeaning 19 = .ok (.goto 4, 3) := by decide +kernel
theorem dX11_isMeaning_22 : decode cX11_isMeaning 22 = .ok (.iconst 0, 1) := by decide +kernel
theorem dX11_isMeaning_23 : decode cX11_isMeaning 23 = .ok (.ireturn, 1) := by decide +kernel
theorem dX11_isPart_0 : decode cX11_isPart 0 = .ok (.iload_n 0, 1) := by decide +kernel
theorem dX11_isPart_1 : decode cX11_isPart 1 = .ok (.ifCond .eq 8, 3) := by decide +kernel
theorem dX11_isPart_4 : decode cX11_isPart 4 = .ok (.iload_n 0, 1) := by decide +kernel
theorem dX11_isPart_5 : decode cX11_isPart 5 = .ok (.iconst 1, 1) := by decide +kernel
theorem dX11_isPart_6 : decode cX11_isPart 6 = .ok (.if_icmp .ne 7, 3) := by decide +kernel
theorem dX11_isPart_9 : decode cX11_isPart 9 = .ok (.iconst 1, 1) := by decide +kernel
theorem dX11_isPart_10 : decode cX11_isPart 10 = .ok (.goto 4, 3) := by decide +kernel
theorem dX11_isPart_13 : decode cX11_isPart 13 = .ok (.iconst 0, 1) := by decide +kernel
theorem dX11_isPart_14 : decode cX11_isPart 14 = .ok (.ireturn, 1) := by decide +kernel
theorem dX11_isReading_0 : decode cX11_isReading 0 = .ok (.aload_n 0, 1) := by decide +kernel
theorem dX11_isReading_1 : decode cX11_isReading 1 = .ok (.iload_n 1, 1) := by decide +kernel
theorem dX11_isReading_2 : decode cX11_isReading 2 = .ok (.invokevirtual 145, 3) := by decide +kernel
theorem dX11_isReading_5 : decode cX11_isReading 5 = .ok (.ifCond .eq 22, 3) := by decide +kernel
theorem dX11_isReading_8 : decode cX11_isReading 8 = .ok (.iload_n 2, 1) := by decide +kernel
theorem dX11_isReading_9 : decode cX11_isReading 9 = .ok (.invokestatic 158, 3) := by decide +kernel
theorem dX11_isReading_12 : decode cX11_isReading 12 = .ok (.ifCond .eq 15, 3) := by decide +kernel
theorem dX11_isReading_15 : decode cX11_isReading 15 = .ok (.aload_n 0, 1) := by decide +kernel
theorem dX11_isReading_16 : decode cX11_isReading 16 = .ok (.iload_n 3, 1) := by decide +kernel
theorem dX11_isReading_17 : decode cX11_isReading 17 = .ok (.invokevirtual 135, 3) := by decide +kernel
theorem dX11_isReading_20 : decode cX11_isReading 20 = .ok (.ifCond .eq 7, 3) := by decide +kernel
theorem dX11_isReading_23 : decode cX11_isReading 23 = .ok (.iconst 1, 1) := by decide +kernel
theorem dX11_isReading_24 : decode cX11_isReading 24 = .ok (.goto 4, 3) := by decide +kernel
theorem dX11_isReading_27 : decode cX11_isReading 27 = .ok (.iconst 0, 1) := by decide +kernel
theorem dX11_isReading_28 : decode cX11_isReading 28 = .ok (.ireturn, 1) := by decide +kernel
theorem dX11_isSense_0 : decode cX11_isSense 0 = .ok (.iload_n 1, 1) := by decide +kernel
theorem dX11_isSense_1 : decode cX11_isSense 1 = .ok (.ifCond .lt 21, 3) := by decide +kernel
theorem dX11_isSense_4 : decode cX11_isSense 4 = .ok (.iload_n 1, 1) := by decide +kernel
theorem dX11_isSense_5 : decode cX11_isSense 5 = .ok (.aload_n 0, 1) := by decide +kernel
theorem dX11_isSense_6 : decode cX11_isSense 6 = .ok (.getfield 28, 3) := by decide +kernel
theorem dX11_isSense_9 : decode cX11_isSense 9 = .ok (.getfield 109, 3) := by decide +kernel
theorem dX11_isSense_12 : decode cX11_isSense 12 = .ok (.getfield 180, 3) := by decide +kernel
theorem dX11_isSense_15 : decode cX11_isSense 15 = .ok (.if_icmp .ge 7, 3) := by decide +kernel
theorem dX11_isSense_18 : decode cX11_isSense 18 = .ok (.iconst 1, 1) := by decide +kernel
theorem dX11_isSense_19 : decode cX11_isSense 19 = .ok (.goto 4, 3) := by decide +kernel
theorem dX11_isSense_22 : decode cX11_isSense 22 = .ok (.iconst 0, 1) := by decide +kernel
theorem dX11_isSense_23 : decode cX11_isSense 23 = .ok (.ireturn, 1) := by decide +kernel
theorem dX11_isText_0 : decode cX11_isText 0 = .ok (.iload_n 1, 1) := by decide +kernel
theorem dX11_isText_1 : decode cX11_isText 1 = .ok (.ifCond .lt 21, 3) := by decide +kernel
theorem dX11_isText_4 : decode cX11_isText 4 = .ok (.iload_n 1, 1) := by decide +kernel
theorem dX11_isText_5 : decode cX11_isText 5 = .ok (.aload_n 0, 1) := by decide +kernel
theorem dX11_isText_6 : decode cX11_isText 6 = .ok (.getfield 28, 3) := by decide +kernel
theorem dX11_isText_9 : decode cX11_isText 9 = .ok (.getfield 109, 3) := by decide +kernel
theorem dX11_isText_12 : decode cX11_isText 12 = .ok (.getfield 251, 3) := by decide +kernel
theorem dX11_isText_15 : decode cX11_isText 15 = .ok (.if_icmp .ge 7, 3) := by decide +kernel
theorem dX11_isText_18 : decode cX11_isText 18 = .ok (.iconst 1, 1) := by decide +kernel
theorem dX11_isText_19 : decode cX11_isText 19 = .ok (.goto 4, 3) := by decide +kernel
theorem dX11_isText_22 : decode cX11_isText 22 = .ok (.iconst 0, 1) := by decide +kernel
theorem dX11_isText_23 : decode cX11_isText 23 = .ok (.ireturn, 1) := by decide +kernel
theorem dX11_isWord_0 : decode cX11_isWord 0 = .ok (.iload_n 1, 1) := by decide +kernel
theorem dX11_isWord_1 : decode cX11_isWord 1 = .ok (.ifCond .lt 21, 3) := by decide +kernel
theorem dX11_isWord_4 : decode cX11_isWord 4 = .ok (.iload_n 1, 1) := by decide +kernel
theorem dX11_isWord_5 : decode cX11_isWord 5 = .ok (.aload_n 0, 1) := by decide +kernel
theorem dX11_isWord_6 : decode cX11_isWord 6 = .ok (.getfield 28, 3) := by decide +kernel
theorem dX11_isWord_9 : decode cX11_isWord 9 = .ok (.getfield 109, 3) := by decide +kernel
theorem dX11_isWord_12 : decode cX11_isWord 12 = .ok (.invokevirtual 183, 3) := by decide +kernel
theorem dX11_isWord_15 : decode cX11_isWord 15 = .ok (.if_icmp .ge 7, 3) := by decide +kernel
theorem dX11_isWord_18 : decode cX11_isWord 18 = .ok (.iconst 1, 1) := by decide +kernel
theorem dX11_isWord_19 : decode cX11_isWord 19 = .ok (.goto 4, 3) := by decide +kernel
theorem dX11_isWord_22 : decode cX11_isWord 22 = .ok (.iconst 0, 1) := by decide +kernel
theorem dX11_isWord_23 : decode cX11_isWord 23 = .ok (.ireturn, 1) := by decide +kernel
theorem dX11_may_0 : decode cX11_may 0 = .ok (.aload_n 0, 1) := by decide +kernel
theorem dX11_may_1 : decode cX11_may 1 = .ok (.iload_n 1, 1) := by decide +kernel
theorem dX11_may_2 : decode cX11_may 2 = .ok (.invokevirtual 145, 3) := by decide +kernel
theorem dX11_may_5 : decode cX11_may 5 = .ok (.ifCond .eq 11, 3) := by decide +kernel
theorem dX11_may_8 : decode cX11_may 8 = .ok (.aload_n 0, 1) := by decide +kernel
theorem dX11_may_9 : decode cX11_may 9 = .ok (.iload_n 2, 1) := by decide +kernel
theorem dX11_may_10 : decode cX11_may 10 = .ok (.invokevirtual 164, 3) := by decide +kernel
theorem dX11_may_13 : decode cX11_may 13 = .ok (.ifCond .ne 6, 3) := by decide +kernel
theorem dX11_may_16 : decode cX11_may 16 = .ok (.bipush (-2), 2) := by decide +kernel
theorem dX11_may_18 : decode cX11_may 18 = .ok (.ireturn, 1) := by decide +kernel
theorem dX11_may_19 : decode cX11_may 19 = .ok (.iconst 0, 1) := by decide +kernel
theorem dX11_may_20 : decode cX11_may 20 = .ok (.istore_n 3, 1) := by decide +kernel
theorem dX11_may_21 : decode cX11_may 21 = .ok (.aload_n 0, 1) := by decide +kernel
theorem dX11_may_22 : decode cX11_may 22 = .ok (.getfield 28, 3) := by decide +kernel
theorem dX11_may_25 : decode cX11_may 25 = .ok (.iload_n 1, 1) := by decide +kernel
theorem dX11_may_26 : decode cX11_may 26 = .ok (.invokevirtual 170, 3) := by decide +kernel
theorem dX11_may_29 : decode cX11_may 29 = .ok (.istore 4, 2) := by decide +kernel
theorem dX11_may_31 : decode cX11_may 31 = .ok (.iconst 0, 1) := by decide +kernel
theorem dX11_may_32 : decode cX11_may 32 = .ok (.istore 5, 2) := by decide +kernel
theorem dX11_may_34 : decode cX11_may 34 = .ok (.iload 5, 2) := by decide +kernel
theorem dX11_may_36 : decode cX11_may 36 = .ok (.iload 4, 2) := by decide +kernel
theorem dX11_may_38 : decode cX11_may 38 = .ok (.if_icmp .ge 25, 3) := by decide +kernel
theorem dX11_may_41 : decode cX11_may 41 = .ok (.iload_n 3, 1) := by decide +kernel
theorem dX11_may_42 : decode cX11_may 42 = .ok (.iconst 1, 1) := by decide +kernel
theorem dX11_may_43 : decode cX11_may 43 = .ok (.aload_n 0, 1) := by decide +kernel
theorem dX11_may_44 : decode cX11_may 44 = .ok (.getfield 28, 3) := by decide +kernel
theorem dX11_may_47 : decode cX11_may 47 = .ok (.iload_n 1, 1) := by decide +kernel
theorem dX11_may_48 : decode cX11_may 48 = .ok (.iload 5, 2) := by decide +kernel
theorem dX11_may_50 : decode cX11_may 50 = .ok (.iload_n 2, 1) := by decide +kernel
theorem dX11_may_51 : decode cX11_may 51 = .ok (.invokevirtual 167, 3) := by decide +kernel
theorem dX11_may_54 : decode cX11_may 54 = .ok (.ishl, 1) := by decide +kernel
theorem dX11_may_55 : decode cX11_may 55 = .ok (.ior, 1) := by decide +kernel
theorem dX11_may_56 : decode cX11_may 56 = .ok (.istore_n 3, 1) := by decide +kernel
theorem dX11_may_57 : decode cX11_may 57 = .ok (.iinc 5 1, 3) := by decide +kernel
theorem dX11_may_60 : decode cX11_may 60 = .ok (.goto (-26), 3) := by decide +kernel
theorem dX11_may_63 : decode cX11_may 63 = .ok (.iload_n 3, 1) := by decide +kernel
theorem dX11_may_64 : decode cX11_may 64 = .ok (.ireturn, 1) := by decide +kernel
theorem dX11_means_0 : decode cX11_means 0 = .ok (.aload_n 0, 1) := by decide +kernel
theorem dX11_means_1 : decode cX11_means 1 = .ok (.iload_n 1, 1) := by decide +kernel
theorem dX11_means_2 : decode cX11_means 2 = .ok (.invokevirtual 145, 3) := by decide +kernel
theorem dX11_means_5 : decode cX11_means 5 = .ok (.ifCond .eq 18, 3) := by decide +kernel
theorem dX11_means_8 : decode cX11_means 8 = .ok (.iload_n 2, 1) := by decide +kernel
theorem dX11_means_9 : decode cX11_means 9 = .ok (.invokestatic 158, 3) := by decide +kernel
theorem dX11_means_12 : decode cX11_means 12 = .ok (.ifCond .eq 11, 3) := by decide +kernel
theorem dX11_means_15 : decode cX11_means 15 = .ok (.aload_n 0, 1) := by decide +kernel
theorem dX11_means_16 : decode cX11_means 16 = .ok (.iload_n 3, 1) := by decide +kernel
theorem dX11_means_17 : decode cX11_means 17 = .ok (.invokevirtual 148, 3) := by decide +kernel
theorem dX11_means_20 : decode cX11_means 20 = .ok (.ifCond .ne 6, 3) := by decide +kernel
theorem dX11_means_23 : decode cX11_means 23 = .ok (.bipush (-2), 2) := by decide +kernel
theorem dX11_means_25 : decode cX11_means 25 = .ok (.ireturn, 1) := by decide +kernel
theorem dX11_means_26 : decode cX11_means 26 = .ok (.aload_n 0, 1) := by decide +kernel
theorem dX11_means_27 : decode cX11_means 27 = .ok (.getfield 28, 3) := by decide +kernel
theorem dX11_means_30 : decode cX11_means 30 = .ok (.iload_n 1, 1) := by decide +kernel
theorem dX11_means_31 : decode cX11_means 31 = .ok (.iload_n 2, 1) := by decide +kernel
theorem dX11_means_32 : decode cX11_means 32 = .ok (.iload_n 3, 1) := by decide +kernel
theorem dX11_means_33 : decode cX11_means 33 = .ok (.invokevirtual 161, 3) := by decide +kernel
theorem dX11_means_36 : decode cX11_means 36 = .ok (.ireturn, 1) := by decide +kernel
theorem dX11_mostMute_0 : decode cX11_mostMute 0 = .ok (.iconst 0, 1) := by decide +kernel
theorem dX11_mostMute_1 : decode cX11_mostMute 1 = .ok (.istore_n 2, 1) := by decide +kernel
theorem dX11_mostMute_2 : decode cX11_mostMute 2 = .ok (.iconst 0, 1) := by decide +kernel
theorem dX11_mostMute_3 : decode cX11_mostMute 3 = .ok (.istore_n 3, 1) := by decide +kernel
theorem dX11_mostMute_4 : decode cX11_mostMute 4 = .ok (.aload_n 0, 1) := by decide +kernel
theorem dX11_mostMute_5 : decode cX11_mostMute 5 = .ok (.getfield 28, 3) := by decide +kernel
theorem dX11_mostMute_8 : decode cX11_mostMute 8 = .ok (.getfield 109, 3) := by decide +kernel
theorem dX11_mostMute_11 : decode cX11_mostMute 11 = .ok (.invokevirtual 183, 3) := by decide +kernel
theorem dX11_mostMute_14 : decode cX11_mostMute 14 = .ok (.istore 4, 2) := by decide +kernel
theorem dX11_mostMute_16 : decode cX11_mostMute 16 = .ok (.iconst 0, 1) := by decide +kernel
theorem dX11_mostMute_17 : decode cX11_mostMute 17 = .ok (.istore 5, 2) := by decide +kernel
theorem dX11_mostMute_19 : decode cX11_mostMute 19 = .ok (.iload 5, 2) := by decide +kernel
theorem dX11_mostMute_21 : decode cX11_mostMute 21 = .ok (.iload 4, 2) := by decide +kernel
theorem dX11_mostMute_23 : decode cX11_mostMute 23 = .ok (.if_icmp .ge 43, 3) := by decide +kernel
theorem dX11_mostMute_26 : decode cX11_mostMute 26 = .ok (.aload_n 0, 1) := by decide +kernel
theorem dX11_mostMute_27 : decode cX11_mostMute 27 = .ok (.getfield 28, 3) := by decide +kernel
theorem dX11_mostMute_30 : decode cX11_mostMute 30 = .ok (.iload_n 1, 1) := by decide +kernel
theorem dX11_mostMute_31 : decode cX11_mostMute 31 = .ok (.iload 5, 2) := by decide +kernel
theorem dX11_mostMute_33 : decode cX11_mostMute 33 = .ok (.aload_n 0, 1) := by decide +kernel
theorem dX11_mostMute_34 : decode cX11_mostMute 34 = .ok (.getfield 28, 3) := by decide +kernel
theorem dX11_mostMute_37 : decode cX11_mostMute 37 = .ok (.getfield 109, 3) := by decide +kernel
theorem dX11_mostMute_40 : decode cX11_mostMute 40 = .ok (.getfield 180, 3) := by decide +kernel
theorem dX11_mostMute_43 : decode cX11_mostMute 43 = .ok (.invokevirtual 174, 3) := by decide +kernel
theorem dX11_mostMute_46 : decode cX11_mostMute 46 = .ok (.istore 6, 2) := by decide +kernel
theorem dX11_mostMute_48 : decode cX11_mostMute 48 = .ok (.iload 6, 2) := by decide +kernel
theorem dX11_mostMute_50 : decode cX11_mostMute 50 = .ok (.iload_n 3, 1) := by decide +kernel
theorem dX11_mostMute_51 : decode cX11_mostMute 51 = .ok (.if_icmp .le 9, 3) := by decide +kernel
theorem dX11_mostMute_54 : decode cX11_mostMute 54 = .ok (.iload 6, 2) := by decide +kernel
theorem dX11_mostMute_56 : decode cX11_mostMute 56 = .ok (.istore_n 3, 1) := by decide +kernel
theorem dX11_mostMute_57 : decode cX11_mostMute 57 = .ok (.iload 5, 2) := by decide +kernel
theorem dX11_mostMute_59 : decode cX11_mostMute 59 = .ok (.istore_n 2, 1) := by decide +kernel
theorem dX11_mostMute_60 : decode cX11_mostMute 60 = .ok (.iinc 5 1, 3) := by decide +kernel
theorem dX11_mostMute_63 : decode cX11_mostMute 63 = .ok (.goto (-44), 3) := by decide +kernel
theorem dX11_mostMute_66 : decode cX11_mostMute 66 = .ok (.iload_n 2, 1) := by decide +kernel
theorem dX11_mostMute_67 : decode cX11_mostMute 67 = .ok (.ireturn, 1) := by decide +kernel
theorem dX11_mute_0 : decode cX11_mute 0 = .ok (.aload_n 0, 1) := by decide +kernel
theorem dX11_mute_1 : decode cX11_mute 1 = .ok (.iload_n 1, 1) := by decide +kernel
theorem dX11_mute_2 : decode cX11_mute 2 = .ok (.invokevirtual 145, 3) := by decide +kernel
theorem dX11_mute_5 : decode cX11_mute 5 = .ok (.ifCond .ne 6, 3) := by decide +kernel
theorem dX11_mute_8 : decode cX11_mute 8 = .ok (.bipush (-2), 2) := by decide +kernel
theorem dX11_mute_10 : decode cX11_mute 10 = .ok (.ireturn, 1) := by decide +kernel
theorem dX11_mute_11 : decode cX11_mute 11 = .ok (.aload_n 0, 1) := by decide +kernel
theorem dX11_mute_12 : decode cX11_mute 12 = .ok (.getfield 28, 3) := by decide +kernel
theorem dX11_mute_15 : decode cX11_mute 15 = .ok (.iload_n 1, 1) := by decide +kernel
theorem dX11_mute_16 : decode cX11_mute 16 = .ok (.aload_n 0, 1) := by decide +kernel
theorem dX11_mute_17 : decode cX11_mute 17 = .ok (.iload_n 1, 1) := by decide +kernel
theorem dX11_mute_18 : decode cX11_mute 18 = .ok (.invokevirtual 177, 3) := by decide +kernel
theorem dX11_mute_21 : decode cX11_mute 21 = .ok (.aload_n 0, 1) := by decide +kernel
theorem dX11_mute_22 : decode cX11_mute 22 = .ok (.getfield 28, 3) := by decide +kernel
theorem dX11_mute_25 : decode cX11_mute 25 = .ok (.getfield 109, 3) := by decide +kernel
theorem dX11_mute_28 : decode cX11_mute 28 = .ok (.getfield 180, 3) := by decide +kernel
theorem dX11_mute_31 : decode cX11_mute 31 = .ok (.invokevirtual 174, 3) := by decide +kernel
theorem dX11_mute_34 : decode cX11_mute 34 = .ok (.ireturn, 1) := by decide +kernel
theorem dX11_muted_0 : decode cX11_muted 0 = .ok (.aload_n 0, 1) := by decide +kernel
theorem dX11_muted_1 : decode cX11_muted 1 = .ok (.iload_n 1, 1) := by decide +kernel
theorem dX11_muted_2 : decode cX11_muted 2 = .ok (.invokevirtual 145, 3) := by decide +kernel
theorem dX11_muted_5 : decode cX11_muted 5 = .ok (.ifCond .eq 11, 3) := by decide +kernel
theorem dX11_muted_8 : decode cX11_muted 8 = .ok (.aload_n 0, 1) := by decide +kernel
theorem dX11_muted_9 : decode cX11_muted 9 = .ok (.iload_n 1, 1) := by decide +kernel
theorem dX11_muted_10 : decode cX11_muted 10 = .ok (.invokevirtual 177, 3) := by decide +kernel
theorem dX11_muted_13 : decode cX11_muted 13 = .ok (.goto 5, 3) := by decide +kernel
theorem dX11_muted_16 : decode cX11_muted 16 = .ok (.bipush (-2), 2) := by decide +kernel
theorem dX11_muted_18 : decode cX11_muted 18 = .ok (.ireturn, 1) := by decide +kernel
theorem dX11_often_0 : decode cX11_often 0 = .ok (.aload_n 0, 1) := by decide +kernel
theorem dX11_often_1 : decode cX11_often 1 = .ok (.iload_n 1, 1) := by decide +kernel
theorem dX11_often_2 : decode cX11_often 2 = .ok (.invokevirtual 145, 3) := by decide +kernel
theorem dX11_often_5 : decode cX11_often 5 = .ok (.ifCond .eq 19, 3) := by decide +kernel
theorem dX11_often_8 : decode cX11_often 8 = .ok (.aload_n 0, 1) := by decide +kernel
theorem dX11_often_9 : decode cX11_often 9 = .ok (.iload_n 2, 1) := by decide +kernel
theorem dX11_often_10 : decode cX11_often 10 = .ok (.invokevirtual 148, 3) := by decide +kernel
theorem dX11_often_13 : decode cX11_often 13 = .ok (.ifCond .eq 11, 3) := by decide +kernel
theorem dX11_often_16 : decode cX11_often 16 = .ok (.aload_n 0, 1) := by decide +kernel
theorem dX11_often_17 : decode cX11_often 17 = .ok (.iload_n 3, 1) := by decide +kernel
theorem dX11_often_18 : decode cX11_often 18 = .ok (.invokevirtual 164, 3) := by decide +kernel
theorem dX11_often_21 : decode cX11_often 21 = .ok (.ifCond .ne 6, 3) := by decide +kernel
theorem dX11_often_24 : decode cX11_often 24 = .ok (.bipush (-2), 2) := by decide +kernel
theorem dX11_often_26 : decode cX11_often 26 = .ok (.ireturn, 1) := by decide +kernel
theorem dX11_often_27 : decode cX11_often 27 = .ok (.aload_n 0, 1) := by decide +kernel
theorem dX11_often_28 : decode cX11_often 28 = .ok (.getfield 28, 3) := by decide +kernel
theorem dX11_often_31 : decode cX11_often 31 = .ok (.iload_n 1, 1) := by decide +kernel
theorem dX11_often_32 : decode cX11_often 32 = .ok (.iload_n 2, 1) := by decide +kernel
theorem dX11_often_33 : decode cX11_often 33 = .ok (.iload_n 3, 1) := by decide +kernel
theorem dX11_often_34 : decode cX11_often 34 = .ok (.invokevirtual 174, 3) := by decide +kernel
theorem dX11_often_37 : decode cX11_often 37 = .ok (.ireturn, 1) := by decide +kernel
theorem dX11_read_0 : decode cX11_read 0 = .ok (.aload_n 0, 1) := by decide +kernel
theorem dX11_read_1 : decode cX11_read 1 = .ok (.iload_n 1, 1) := by decide +kernel
theorem dX11_read_2 : decode cX11_read 2 = .ok (.iload_n 2, 1) := by decide +kernel
theorem dX11_read_3 : decode cX11_read 3 = .ok (.iload_n 3, 1) := by decide +kernel
theorem dX11_read_4 : decode cX11_read 4 = .ok (.invokevirtual 191, 3) := by decide +kernel
theorem dX11_read_7 : decode cX11_read 7 = .ok (.ifCond .eq 16, 3) := by decide +kernel
theorem dX11_read_10 : decode cX11_read 10 = .ok (.aload_n 0, 1) := by decide +kernel
theorem dX11_read_11 : decode cX11_read 11 = .ok (.getfield 28, 3) := by decide +kernel
theorem dX11_read_14 : decode cX11_read 14 = .ok (.iload_n 1, 1) := by decide +kernel
theorem dX11_read_15 : decode cX11_read 15 = .ok (.iload_n 2, 1) := by decide +kernel
theorem dX11_read_16 : decode cX11_read 16 = .ok (.iload_n 3, 1) := by decide +kernel
theorem dX11_read_17 : decode cX11_read 17 = .ok (.invokevirtual 195, 3) := by decide +kernel
theorem dX11_read_20 : decode cX11_read 20 = .ok (.goto 5, 3) := by decide +kernel
theorem dX11_read_23 : decode cX11_read 23 = .ok (.bipush (-2), 2) := by decide +kernel
theorem dX11_read_25 : decode cX11_read 25 = .ok (.ireturn, 1) := by decide +kernel
theorem dX11_round_0 : decode cX11_round 0 = .ok (.aload_n 0, 1) := by decide +kernel
theorem dX11_round_1 : decode cX11_round 1 = .ok (.iload_n 1, 1) := by decide +kernel
theorem dX11_round_2 : decode cX11_round 2 = .ok (.invokevirtual 145, 3) := by decide +kernel
theorem dX11_round_5 : decode cX11_round 5 = .ok (.ifCond .eq 14, 3) := by decide +kernel
theorem dX11_round_8 : decode cX11_round 8 = .ok (.aload_n 0, 1) := by decide +kernel
theorem dX11_round_9 : decode cX11_round 9 = .ok (.getfield 28, 3) := by decide +kernel
theorem dX11_round_12 : decode cX11_round 12 = .ok (.iload_n 1, 1) := by decide +kernel
theorem dX11_round_13 : decode cX11_round 13 = .ok (.invokevirtual 170, 3) := by decide +kernel
theorem dX11_round_16 : decode cX11_round 16 = .ok (.goto 5, 3) := by decide +kernel
theorem dX11_round_19 : decode cX11_round 19 = .ok (.bipush (-2), 2) := by decide +kernel
theorem dX11_round_21 : decode cX11_round 21 = .ok (.ireturn, 1) := by decide +kernel
theorem dX11_rule_0 : decode cX11_rule 0 = .ok (.aload_n 0, 1) := by decide +kernel
theorem dX11_rule_1 : decode cX11_rule 1 = .ok (.iload_n 1, 1) := by decide +kernel
theorem dX11_rule_2 : decode cX11_rule 2 = .ok (.invokevirtual 145, 3) := by decide +kernel
theorem dX11_rule_5 : decode cX11_rule 5 = .ok (.ifCond .eq 31, 3) := by decide +kernel
theorem dX11_rule_8 : decode cX11_rule 8 = .ok (.aload_n 0, 1) := by decide +kernel
theorem dX11_rule_9 : decode cX11_rule 9 = .ok (.iload_n 3, 1) := by decide +kernel
theorem dX11_rule_10 : decode cX11_rule 10 = .ok (.invokevirtual 148, 3) := by decide +kernel
theorem dX11_rule_13 : decode cX11_rule 13 = .ok (.ifCond .eq 23, 3) := by decide +kernel
theorem dX11_rule_16 : decode cX11_rule 16 = .ok (.iload_n 2, 1) := by decide +kernel
theorem dX11_rule_17 : decode cX11_rule 17 = .ok (.ifCond .lt 19, 3) := by decide +kernel
theorem dX11_rule_20 : decode cX11_rule 20 = .ok (.iload_n 2, 1) := by decide +kernel
theorem dX11_rule_21 : decode cX11_rule 21 = .ok (.aload_n 0, 1) := by decide +kernel
theorem dX11_rule_22 : decode cX11_rule 22 = .ok (.getfield 28, 3) := by decide +kernel
theorem dX11_rule_25 : decode cX11_rule 25 = .ok (.getfield 109, 3) := by decide +kernel
theorem dX11_rule_28 : decode cX11_rule 28 = .ok (.getfield 151, 3) := by decide +kernel
theorem dX11_rule_31 : decode cX11_rule 31 = .ok (.iload_n 1, 1) := by decide +kernel
theorem dX11_rule_32 : decode cX11_rule 32 = .ok (.iaload, 1) := by decide +kernel
theorem dX11_rule_33 : decode cX11_rule 33 = .ok (.if_icmp .lt 6, 3) := by decide +kernel
theorem dX11_rule_36 : decode cX11_rule 36 = .ok (.bipush (-2), 2) := by decide +kernel
theorem dX11_rule_38 : decode cX11_rule 38 = .ok (.ireturn, 1) := by decide +kernel
theorem dX11_rule_39 : decode cX11_rule 39 = .ok (.aload_n 0, 1) := by decide +kernel
theorem dX11_rule_40 : decode cX11_rule 40 = .ok (.getfield 28, 3) := by decide +kernel
theorem dX11_rule_43 : decode cX11_rule 43 = .ok (.getfield 109, 3) := by decide +kernel
theorem dX11_rule_46 : decode cX11_rule 46 = .ok (.iload_n 1, 1) := by decide +kernel
theorem dX11_rule_47 : decode cX11_rule 47 = .ok (.iload_n 2, 1) := by decide +kernel
theorem dX11_rule_48 : decode cX11_rule 48 = .ok (.iload_n 3, 1) := by decide +kernel
theorem dX11_rule_49 : decode cX11_rule 49 = .ok (.invokevirtual 154, 3) := by decide +kernel
theorem dX11_rule_52 : decode cX11_rule 52 = .ok (.ireturn, 1) := by decide +kernel
theorem dX11_says_0 : decode cX11_says 0 = .ok (.aload_n 0, 1) := by decide +kernel
theorem dX11_says_1 : decode cX11_says 1 = .ok (.iload_n 1, 1) := by decide +kernel
theorem dX11_says_2 : decode cX11_says 2 = .ok (.invokevirtual 145, 3) := by decide +kernel
theorem dX11_says_5 : decode cX11_says 5 = .ok (.ifCond .eq 18, 3) := by decide +kernel
theorem dX11_says_8 : decode cX11_says 8 = .ok (.iload_n 2, 1) := by decide +kernel
theorem dX11_says_9 : decode cX11_says 9 = .ok (.invokestatic 158, 3) := by decide +kernel
theorem dX11_says_12 : decode cX11_says 12 = .ok (.ifCond .eq 11, 3) := by decide +kernel
theorem dX11_says_15 : decode cX11_says 15 = .ok (.aload_n 0, 1) := by decide +kernel
theorem dX11_says_16 : decode cX11_says 16 = .ok (.iload_n 3, 1) := by decide +kernel
theorem dX11_says_17 : decode cX11_says 17 = .ok (.invokevirtual 164, 3) := by decide +kernel
theorem dX11_says_20 : decode cX11_says 20 = .ok (.ifCond .ne 6, 3) := by decide +kernel
theorem dX11_says_23 : decode cX11_says 23 = .ok (.bipush (-2), 2) := by decide +kernel
theorem dX11_says_25 : decode cX11_says 25 = .ok (.ireturn, 1) := by decide +kernel
theorem dX11_says_26 : decode cX11_says 26 = .ok (.aload_n 0, 1) := by decide +kernel
theorem dX11_says_27 : decode cX11_says 27 = .ok (.getfield 28, 3) := by decide +kernel
theorem dX11_says_30 : decode cX11_says 30 = .ok (.iload_n 1, 1) := by decide +kernel
theorem dX11_says_31 : decode cX11_says 31 = .ok (.iload_n 2, 1) := by decide +kernel
theorem dX11_says_32 : decode cX11_says 32 = .ok (.iload_n 3, 1) := by decide +kernel
theorem dX11_says_33 : decode cX11_says 33 = .ok (.invokevirtual 167, 3) := by decide +kernel
theorem dX11_says_36 : decode cX11_says 36 = .ok (.ireturn, 1) := by decide +kernel
theorem dX11_sense_0 : decode cX11_sense 0 = .ok (.aload_n 0, 1) := by decide +kernel
theorem dX11_sense_1 : decode cX11_sense 1 = .ok (.iload_n 1, 1) := by decide +kernel
theorem dX11_sense_2 : decode cX11_sense 2 = .ok (.invokevirtual 121, 3) := by decide +kernel
theorem dX11_sense_5 : decode cX11_sense 5 = .ok (.ifCond .eq 10, 3) := by decide +kernel
theorem dX11_sense_8 : decode cX11_sense 8 = .ok (.iload_n 2, 1) := by decide +kernel
theorem dX11_sense_9 : decode cX11_sense 9 = .ok (.invokestatic 125, 3) := by decide +kernel
theorem dX11_sense_12 : decode cX11_sense 12 = .ok (.ifCond .ne 6, 3) := by decide +kernel
theorem dX11_sense_15 : decode cX11_sense 15 = .ok (.bipush (-2), 2) := by decide +kernel
theorem dX11_sense_17 : decode cX11_sense 17 = .ok (.ireturn, 1) := by decide +kernel
theorem dX11_sense_18 : decode cX11_sense 18 = .ok (.iload_n 2, 1) := by decide +kernel
theorem dX11_sense_19 : decode cX11_sense 19 = .ok (.ifCond .ne 18, 3) := by decide +kernel
theorem dX11_sense_22 : decode cX11_sense 22 = .ok (.aload_n 0, 1) := by decide +kernel
theorem dX11_sense_23 : decode cX11_sense 23 = .ok (.getfield 28, 3) := by decide +kernel
theorem dX11_sense_26 : decode cX11_sense 26 = .ok (.getfield 109, 3) := by decide +kernel
theorem dX11_sense_29 : decode cX11_sense 29 = .ok (.getfield 128, 3) := by decide +kernel
theorem dX11_sense_32 : decode cX11_sense 32 = .ok (.iload_n 1, 1) := by decide +kernel
theorem dX11_sense_33 : decode cX11_sense 33 = .ok (.iaload, 1) := by decide +kernel
theorem dX11_sense_34 : decode cX11_sense 34 = .ok (.goto 15, 3) := by decide +kernel
theorem dX11_sense_37 : decode cX11_sense 37 = .ok (.aload_n 0, 1) := by decide +kernel
theorem dX11_sense_38 : decode cX11_sense 38 = .ok (.getfield 28, 3) := by decide +kernel
theorem dX11_sense_41 : decode cX11_sense 41 = .ok (.getfield 109, 3) := by decide +kernel
theorem dX11_sense_44 : decode cX11_sense 44 = .ok (.getfield 132, 3) := by decide +kernel
theorem dX11_sense_47 : decode cX11_sense 47 = .ok (.iload_n 1, 1) := by decide +kernel
theorem dX11_sense_48 : decode cX11_sense 48 = .ok (.iaload, 1) := by decide +kernel
theorem dX11_sense_49 : decode cX11_sense 49 = .ok (.ireturn, 1) := by decide +kernel
theorem dX11_silent_0 : decode cX11_silent 0 = .ok (.aload_n 0, 1) := by decide +kernel
theorem dX11_silent_1 : decode cX11_silent 1 = .ok (.iload_n 1, 1) := by decide +kernel
theorem dX11_silent_2 : decode cX11_silent 2 = .ok (.iload_n 2, 1) := by decide +kernel
theorem dX11_silent_3 : decode cX11_silent 3 = .ok (.iload_n 3, 1) := by decide +kernel
theorem dX11_silent_4 : decode cX11_silent 4 = .ok (.invokevirtual 191, 3) := by decide +kernel
theorem dX11_silent_7 : decode cX11_silent 7 = .ok (.ifCond .ne 6, 3) := by decide +kernel
theorem dX11_silent_10 : decode cX11_silent 10 = .ok (.bipush (-2), 2) := by decide +kernel
theorem dX11_silent_12 : decode cX11_silent 12 = .ok (.ireturn, 1) := by decide +kernel
theorem dX11_silent_13 : decode cX11_silent 13 = .ok (.iconst 0, 1) := by decide +kernel
theorem dX11_silent_14 : decode cX11_silent 14 = .ok (.istore 4, 2) := by decide +kernel
theorem dX11_silent_16 : decode cX11_silent 16 = .ok (.iconst 0, 1) := by decide +kernel
theorem dX11_silent_17 : decode cX11_silent 17 = .ok (.istore 5, 2) := by decide +kernel
theorem dX11_silent_19 : decode cX11_silent 19 = .ok (.iload 5, 2) := by decide +kernel
theorem dX11_silent_21 : decode cX11_silent 21 = .ok (.aload_n 0, 1) := by decide +kernel
theorem dX11_silent_22 : decode cX11_silent 22 = .ok (.getfield 28, 3) := by decide +kernel
theorem dX11_silent_25 : decode cX11_silent 25 = .ok (.getfield 109, 3) := by decide +kernel
theorem dX11_silent_28 : decode cX11_silent 28 = .ok (.getfield 138, 3) := by decide +kernel
theorem dX11_silent_31 : decode cX11_silent 31 = .ok (.iload_n 3, 1) := by decide +kernel
theorem dX11_silent_32 : decode cX11_silent 32 = .ok (.iaload, 1) := by decide +kernel
theorem dX11_silent_33 : decode cX11_silent 33 = .ok (.if_icmp .ge 53, 3) := by decide +kernel
theorem dX11_silent_36 : decode cX11_silent 36 = .ok (.aload_n 0, 1) := by decide +kernel
theorem dX11_silent_37 : decode cX11_silent 37 = .ok (.getfield 28, 3) := by decide +kernel
theorem dX11_silent_40 : decode cX11_silent 40 = .ok (.iload_n 1, 1) := by decide +kernel
theorem dX11_silent_41 : decode cX11_silent 41 = .ok (.iload_n 2, 1) := by decide +kernel
theorem dX11_silent_42 : decode cX11_silent 42 = .ok (.aload_n 0, 1) := by decide +kernel
theorem dX11_silent_43 : decode cX11_silent 43 = .ok (.getfield 28, 3) := by decide +kernel
theorem dX11_silent_46 : decode cX11_silent 46 = .ok (.getfield 109, 3) := by decide +kernel
theorem dX11_silent_49 : decode cX11_silent 49 = .ok (.iload_n 3, 1) := by decide +kernel
theorem dX11_silent_50 : decode cX11_silent 50 = .ok (.iload 5, 2) := by decide +kernel
theorem dX11_silent_52 : decode cX11_silent 52 = .ok (.invokevirtual 141, 3) := by decide +kernel
theorem dX11_silent_55 : decode cX11_silent 55 = .ok (.invokevirtual 161, 3) := by decide +kernel
theorem dX11_silent_58 : decode cX11_silent 58 = .ok (.aload_n 0, 1) := by decide +kernel
theorem dX11_silent_59 : decode cX11_silent 59 = .ok (.getfield 28, 3) := by decide +kernel
theorem dX11_silent_62 : decode cX11_silent 62 = .ok (.getfield 109, 3) := by decide +kernel
theorem dX11_silent_65 : decode cX11_silent 65 = .ok (.getfield 180, 3) := by decide +kernel
theorem dX11_silent_68 : decode cX11_silent 68 = .ok (.if_icmp .ne 12, 3) := by decide +kernel
theorem dX11_silent_71 : decode cX11_silent 71 = .ok (.iload 4, 2) := by decide +kernel
theorem dX11_silent_73 : decode cX11_silent 73 = .ok (.iconst 1, 1) := by decide +kernel
theorem dX11_silent_74 : decode cX11_silent 74 = .ok (.iload 5, 2) := by decide +kernel
theorem dX11_silent_76 : decode cX11_silent 76 = .ok (.ishl, 1) := by decide +kernel
theorem dX11_silent_77 : decode cX11_silent 77 = .ok (.ior, 1) := by decide +kernel
theorem dX11_silent_78 : decode cX11_silent 78 = .ok (.istore 4, 2) := by decide +kernel
theorem dX11_silent_80 : decode cX11_silent 80 = .ok (.iinc 5 1, 3) := by decide +kernel
theorem dX11_silent_83 : decode cX11_silent 83 = .ok (.goto (-64), 3) := by decide +kernel
theorem dX11_silent_86 : decode cX11_silent 86 = .ok (.iload 4, 2) := by decide +kernel
theorem dX11_silent_88 : decode cX11_silent 88 = .ok (.ireturn, 1) := by decide +kernel
theorem dX11_stays_0 : decode cX11_stays 0 = .ok (.aload_n 0, 1) := by decide +kernel
theorem dX11_stays_1 : decode cX11_stays 1 = .ok (.iload_n 1, 1) := by decide +kernel
theorem dX11_stays_2 : decode cX11_stays 2 = .ok (.invokevirtual 145, 3) := by decide +kernel
theorem dX11_stays_5 : decode cX11_stays 5 = .ok (.ifCond .eq 10, 3) := by decide +kernel
theorem dX11_stays_8 : decode cX11_stays 8 = .ok (.iload_n 2, 1) := by decide +kernel
theorem dX11_stays_9 : decode cX11_stays 9 = .ok (.invokestatic 158, 3) := by decide +kernel
theorem dX11_stays_12 : decode cX11_stays 12 = .ok (.ifCond .ne 6, 3) := by decide +kernel
theorem dX11_stays_15 : decode cX11_stays 15 = .ok (.bipush (-2), 2) := by decide +kernel
theorem dX11_stays_17 : decode cX11_stays 17 = .ok (.ireturn, 1) := by decide +kernel
theorem dX11_stays_18 : decode cX11_stays 18 = .ok (.aload_n 0, 1) := by decide +kernel
theorem dX11_stays_19 : decode cX11_stays 19 = .ok (.getfield 28, 3) := by decide +kernel
theorem dX11_stays_22 : decode cX11_stays 22 = .ok (.getfield 109, 3) := by decide +kernel
theorem dX11_stays_25 : decode cX11_stays 25 = .ok (.invokevirtual 183, 3) := by decide +kernel
theorem dX11_stays_28 : decode cX11_stays 28 = .ok (.aload_n 0, 1) := by decide +kernel
theorem dX11_stays_29 : decode cX11_stays 29 = .ok (.getfield 28, 3) := by decide +kernel
theorem dX11_stays_32 : decode cX11_stays 32 = .ok (.iload_n 1, 1) := by decide +kernel
theorem dX11_stays_33 : decode cX11_stays 33 = .ok (.iload_n 2, 1) := by decide +kernel
theorem dX11_stays_34 : decode cX11_stays 34 = .ok (.iload_n 1, 1) := by decide +kernel
theorem dX11_stays_35 : decode cX11_stays 35 = .ok (.iconst 0, 1) := by decide +kernel
theorem dX11_stays_36 : decode cX11_stays 36 = .ok (.invokevirtual 187, 3) := by decide +kernel
theorem dX11_stays_39 : decode cX11_stays 39 = .ok (.isub, 1) := by decide +kernel
theorem dX11_stays_40 : decode cX11_stays 40 = .ok (.ireturn, 1) := by decide +kernel
theorem dX11_when_0 : decode cX11_when 0 = .ok (.aload_n 0, 1) := by decide +kernel
theorem dX11_when_1 : decode cX11_when 1 = .ok (.iload_n 1, 1) := by decide +kernel
theorem dX11_when_2 : decode cX11_when 2 = .ok (.invokevirtual 145, 3) := by decide +kernel
theorem dX11_when_5 : decode cX11_when 5 = .ok (.ifCond .eq 27, 3) := by decide +kernel
theorem dX11_when_8 : decode cX11_when 8 = .ok (.aload_n 0, 1) := by decide +kernel
theorem dX11_when_9 : decode cX11_when 9 = .ok (.iload_n 2, 1) := by decide +kernel
theorem dX11_when_10 : decode cX11_when 10 = .ok (.invokevirtual 148, 3) := by decide +kernel
theorem dX11_when_13 : decode cX11_when 13 = .ok (.ifCond .eq 19, 3) := by decide +kernel
theorem dX11_when_16 : decode cX11_when 16 = .ok (.aload_n 0, 1) := by decide +kernel
theorem dX11_when_17 : decode cX11_when 17 = .ok (.iload_n 3, 1) := by decide +kernel
theorem dX11_when_18 : decode cX11_when 18 = .ok (.invokevirtual 164, 3) := by decide +kernel
theorem dX11_when_21 : decode cX11_when 21 = .ok (.ifCond .eq 11, 3) := by decide +kernel
theorem dX11_when_24 : decode cX11_when 24 = .ok (.iload 4, 2) := by decide +kernel
theorem dX11_when_26 : decode cX11_when 26 = .ok (.invokestatic 158, 3) := by decide +kernel
theorem dX11_when_29 : decode cX11_when 29 = .ok (.ifCond .ne 6, 3) := by decide +kernel
theorem dX11_when_32 : decode cX11_when 32 = .ok (.bipush (-2), 2) := by decide +kernel
theorem dX11_when_34 : decode cX11_when 34 = .ok (.ireturn, 1) := by decide +kernel
theorem dX11_when_35 : decode cX11_when 35 = .ok (.aload_n 0, 1) := by decide +kernel
theorem dX11_when_36 : decode cX11_when 36 = .ok (.getfield 28, 3) := by decide +kernel
theorem dX11_when_39 : decode cX11_when 39 = .ok (.iload_n 1, 1) := by decide +kernel
theorem dX11_when_40 : decode cX11_when 40 = .ok (.invokevirtual 170, 3) := by decide +kernel
theorem dX11_when_43 : decode cX11_when 43 = .ok (.istore 5, 2) := by decide +kernel
theorem dX11_when_45 : decode cX11_when 45 = .ok (.iconst 0, 1) := by decide +kernel
theorem dX11_when_46 : decode cX11_when 46 = .ok (.istore 6, 2) := by decide +kernel
theorem dX11_when_48 : decode cX11_when 48 = .ok (.iload 6, 2) := by decide +kernel
theorem dX11_when_50 : decode cX11_when 50 = .ok (.iload 5, 2) := by decide +kernel
theorem dX11_when_52 : decode cX11_when 52 = .ok (.if_icmp .ge 33, 3) := by decide +kernel
theorem dX11_when_55 : decode cX11_when 55 = .ok (.aload_n 0, 1) := by decide +kernel
theorem dX11_when_56 : decode cX11_when 56 = .ok (.getfield 28, 3) := by decide +kernel
theorem dX11_when_59 : decode cX11_when 59 = .ok (.iload_n 1, 1) := by decide +kernel
theorem dX11_when_60 : decode cX11_when 60 = .ok (.iload 4, 2) := by decide +kernel
theorem dX11_when_62 : decode cX11_when 62 = .ok (.iload 6, 2) := by decide +kernel
theorem dX11_when_64 : decode cX11_when 64 = .ok (.iadd, 1) := by decide +kernel
theorem dX11_when_65 : decode cX11_when 65 = .ok (.iload_n 2, 1) := by decide +kernel
theorem dX11_when_66 : decode cX11_when 66 = .ok (.invokevirtual 161, 3) := by decide +kernel
theorem dX11_when_69 : decode cX11_when 69 = .ok (.iload_n 3, 1) := by decide +kernel
theorem dX11_when_70 : decode cX11_when 70 = .ok (.if_icmp .ne 9, 3) := by decide +kernel
theorem dX11_when_73 : decode cX11_when 73 = .ok (.iload 4, 2) := by decide +kernel
theorem dX11_when_75 : decode cX11_when 75 = .ok (.iload 6, 2) := by decide +kernel
theorem dX11_when_77 : decode cX11_when 77 = .ok (.iadd, 1) := by decide +kernel
theorem dX11_when_78 : decode cX11_when 78 = .ok (.ireturn, 1) := by decide +kernel
theorem dX11_when_79 : decode cX11_when 79 = .ok (.iinc 6 1, 3) := by decide +kernel
theorem dX11_when_82 : decode cX11_when 82 = .ok (.goto (-34), 3) := by decide +kernel
theorem dX11_when_85 : decode cX11_when 85 = .ok (.iconst (-1), 1) := by decide +kernel
theorem dX11_when_86 : decode cX11_when 86 = .ok (.ireturn, 1) := by decide +kernel
theorem dX11_word_0 : decode cX11_word 0 = .ok (.aload_n 0, 1) := by decide +kernel
theorem dX11_word_1 : decode cX11_word 1 = .ok (.iload_n 1, 1) := by decide +kernel
theorem dX11_word_2 : decode cX11_word 2 = .ok (.invokevirtual 135, 3) := by decide +kernel
theorem dX11_word_5 : decode cX11_word 5 = .ok (.ifCond .ne 6, 3) := by decide +kernel
theorem dX11_word_8 : decode cX11_word 8 = .ok (.bipush (-2), 2) := by decide +kernel
theorem dX11_word_10 : decode cX11_word 10 = .ok (.ireturn, 1) := by decide +kernel
theorem dX11_word_11 : decode cX11_word 11 = .ok (.iload_n 2, 1) := by decide +kernel
theorem dX11_word_12 : decode cX11_word 12 = .ok (.ifCond .lt 19, 3) := by decide +kernel
theorem dX11_word_15 : decode cX11_word 15 = .ok (.iload_n 2, 1) := by decide +kernel
theorem dX11_word_16 : decode cX11_word 16 = .ok (.aload_n 0, 1) := by decide +kernel
theorem dX11_word_17 : decode cX11_word 17 = .ok (.getfield 28, 3) := by decide +kernel
theorem dX11_word_20 : decode cX11_word 20 = .ok (.getfield 109, 3) := by decide +kernel
theorem dX11_word_23 : decode cX11_word 23 = .ok (.getfield 138, 3) := by decide +kernel
theorem dX11_word_26 : decode cX11_word 26 = .ok (.iload_n 1, 1) := by decide +kernel
theorem dX11_word_27 : decode cX11_word 27 = .ok (.iaload, 1) := by decide +kernel
theorem dX11_word_28 : decode cX11_word 28 = .ok (.if_icmp .lt 5, 3) := by decide +kernel
theorem dX11_word_31 : decode cX11_word 31 = .ok (.iconst (-1), 1) := by decide +kernel
theorem dX11_word_32 : decode cX11_word 32 = .ok (.ireturn, 1) := by decide +kernel
theorem dX11_word_33 : decode cX11_word 33 = .ok (.aload_n 0, 1) := by decide +kernel
theorem dX11_word_34 : decode cX11_word 34 = .ok (.getfield 28, 3) := by decide +kernel
theorem dX11_word_37 : decode cX11_word 37 = .ok (.getfield 109, 3) := by decide +kernel
theorem dX11_word_40 : decode cX11_word 40 = .ok (.iload_n 1, 1) := by decide +kernel
theorem dX11_word_41 : decode cX11_word 41 = .ok (.iload_n 2, 1) := by decide +kernel
theorem dX11_word_42 : decode cX11_word 42 = .ok (.invokevirtual 141, 3) := by decide +kernel
theorem dX11_word_45 : decode cX11_word 45 = .ok (.ireturn, 1) := by decide +kernel
theorem dX1_sourceOf_0 : decode cX1_sourceOf 0 = .ok (.aload_n 0, 1) := by decide +kernel
theorem dX1_sourceOf_1 : decode cX1_sourceOf 1 = .ok (.getfield 25, 3) := by decide +kernel
theorem dX1_sourceOf_4 : decode cX1_sourceOf 4 = .ok (.iconst 1, 1) := by decide +kernel
theorem dX1_sourceOf_5 : decode cX1_sourceOf 5 = .ok (.if_icmp .ge 7, 3) := by decide +kernel
theorem dX1_sourceOf_8 : decode cX1_sourceOf 8 = .ok (.iload_n 2, 1) := by decide +kernel
theorem dX1_sourceOf_9 : decode cX1_sourceOf 9 = .ok (.goto 19, 3) := by decide +kernel
theorem dX1_sourceOf_12 : decode cX1_sourceOf 12 = .ok (.aload_n 0, 1) := by decide +kernel
theorem dX1_sourceOf_13 : decode cX1_sourceOf 13 = .ok (.getfield 9, 3) := by decide +kernel
theorem dX1_sourceOf_16 : decode cX1_sourceOf 16 = .ok (.iload_n 1, 1) := by decide +kernel
theorem dX1_sourceOf_17 : decode cX1_sourceOf 17 = .ok (.aload_n 0, 1) := by decide +kernel
theorem dX1_sourceOf_18 : decode cX1_sourceOf 18 = .ok (.getfield 25, 3) := by decide +kernel
theorem dX1_sourceOf_21 : decode cX1_sourceOf 21 = .ok (.irem, 1) := by decide +kernel
theorem dX1_sourceOf_22 : decode cX1_sourceOf 22 = .ok (.bipush 10, 2) := by decide +kernel
theorem dX1_sourceOf_24 : decode cX1_sourceOf 24 = .ok (.imul, 1) := by decide +kernel
theorem dX1_sourceOf_25 : decode cX1_sourceOf 25 = .ok (.iload_n 2, 1) := by decide +kernel
theorem dX1_sourceOf_26 : decode cX1_sourceOf 26 = .ok (.iadd, 1) := by decide +kernel
theorem dX1_sourceOf_27 : decode cX1_sourceOf 27 = .ok (.iaload, 1) := by decide +kernel
theorem dX1_sourceOf_28 : decode cX1_sourceOf 28 = .ok (.ireturn, 1) := by decide +kernel
theorem mm_k10000 : mm_rg 10000 10000 10000 := ⟨by decide, by decide⟩
theorem mm_k1000000000 : mm_rg 1000000000 1000000000 1000000000 := ⟨by decide, by decide⟩
theorem mm_k1431655765 : mm_rg 1431655765 1431655765 1431655765 := ⟨by decide, by decide⟩
theorem mm_k20000 : mm_rg 20000 20000 20000 := ⟨by decide, by decide⟩
theorem mm_k252645135 : mm_rg 252645135 252645135 252645135 := ⟨by decide, by decide⟩
theorem mm_k63 : mm_rg 63 63 63 := ⟨by decide, by decide⟩
theorem mm_k858993459 : mm_rg 858993459 858993459 858993459 := ⟨by decide, by decide⟩
theorem mm_k9999 : mm_rg 9999 9999 9999 := ⟨by decide, by decide⟩
theorem mm_km2 : mm_rg (-2) (-2) (-2) := ⟨by decide, by decide⟩
theorem hd_X0_wordAt : yX0_wordAt.cls = RX0 ∧ yX0_wordAt.cls ≠ "java/lang/invoke/MethodHandle" ∧ yX0_wordAt.cls ≠ "java/lang/invoke/VarHandle" ∧ (parseMethodDescriptor yX0_wordAt.desc).map (fun d => d.parameters.length) = some 2 := by decide +kernel
theorem hd_X10_after : yX10_after.cls = RX10 ∧ yX10_after.cls ≠ "java/lang/invoke/MethodHandle" ∧ yX10_after.cls ≠ "java/lang/invoke/VarHandle" ∧ (parseMethodDescriptor yX10_after.desc).map (fun d => d.parameters.length) = some 2 := by decide +kernel
theorem hd_X10_daysOfMeaning : yX10_daysOfMeaning.cls = RX10 ∧ yX10_daysOfMeaning.cls ≠ "java/lang/invoke/MethodHandle" ∧ yX10_daysOfMeaning.cls ≠ "java/lang/invoke/VarHandle" ∧ (parseMethodDescriptor yX10_daysOfMeaning.desc).map (fun d => d.parameters.length) = some 3 := by decide +kernel
theorem hd_X10_leaving : yX10_leaving.cls = RX10 ∧ yX10_leaving.cls ≠ "java/lang/invoke/MethodHandle" ∧ yX10_leaving.cls ≠ "java/lang/invoke/VarHandle" ∧ (parseMethodDescriptor yX10_leaving.desc).map (fun d => d.parameters.length) = some 3 := by decide +kernel
theorem hd_X10_leavingFrom : yX10_leavingFrom.cls = RX10 ∧ yX10_leavingFrom.cls ≠ "java/lang/invoke/MethodHandle" ∧ yX10_leavingFrom.cls ≠ "java/lang/invoke/VarHandle" ∧ (parseMethodDescriptor yX10_leavingFrom.desc).map (fun d => d.parameters.length) = some 4 := by decide +kernel
theorem hd_X10_meaning : yX10_meaning.cls = RX10 ∧ yX10_meaning.cls ≠ "java/lang/invoke/MethodHandle" ∧ yX10_meaning.cls ≠ "java/lang/invoke/VarHandle" ∧ (parseMethodDescriptor yX10_meaning.desc).map (fun d => d.parameters.length) = some 3 := by decide +kernel
theorem hd_X10_period : yX10_period.cls = RX10 ∧ yX10_period.cls ≠ "java/lang/invoke/MethodHandle" ∧ yX10_period.cls ≠ "java/lang/invoke/VarHandle" ∧ (parseMethodDescriptor yX10_period.desc).map (fun d => d.parameters.length) = some 1 := by decide +kernel
theorem hd_X10_placesRead : yX10_placesRead.cls = RX10 ∧ yX10_placesRead.cls ≠ "java/lang/invoke/MethodHandle" ∧ yX10_placesRead.cls ≠ "java/lang/invoke/VarHandle" ∧ (parseMethodDescriptor yX10_placesRead.desc).map (fun d => d.parameters.length) = some 3 := by decide +kernel
theorem hd_X10_turnTo : yX10_turnTo.cls = RX10 ∧ yX10_turnTo.cls ≠ "java/lang/invoke/MethodHandle" ∧ yX10_turnTo.cls ≠ "java/lang/invoke/VarHandle" ∧ (parseMethodDescriptor yX10_turnTo.desc).map (fun d => d.parameters.length) = some 1 := by decide +kernel
theorem hd_X10_unlikeWords : yX10_unlikeWords.cls = RX10 ∧ yX10_unlikeWords.cls ≠ "java/lang/invoke/MethodHandle" ∧ yX10_unlikeWords.cls ≠ "java/lang/invoke/VarHandle" ∧ (parseMethodDescriptor yX10_unlikeWords.desc).map (fun d => d.parameters.length) = some 4 := by decide +kernel
theorem hd_X10_wordFor : yX10_wordFor.cls = RX10 ∧ yX10_wordFor.cls ≠ "java/lang/invoke/MethodHandle" ∧ yX10_wordFor.cls ≠ "java/lang/invoke/VarHandle" ∧ (parseMethodDescriptor yX10_wordFor.desc).map (fun d => d.parameters.length) = some 3 := by decide +kernel
theorem hd_X11_isLand : yX11_isLand.cls = RX11 ∧ yX11_isLand.cls ≠ "java/lang/invoke/MethodHandle" ∧ yX11_isLand.cls ≠ "java/lang/invoke/VarHandle" ∧ (parseMethodDescriptor yX11_isLand.desc).map (fun d => d.parameters.length) = some 1 := by decide +kernel
theorem hd_X11_isMeaning : yX11_isMeaning.cls = RX11 ∧ yX11_isMeaning.cls ≠ "java/lang/invoke/MethodHandle" ∧ yX11_isMeaning.cls ≠ "java/lang/invoke/VarHandle" ∧ (parseMethodDescriptor yX11_isMeaning.desc).map (fun d => d.parameters.length) = some 1 := by decide +kernel
theorem hd_X11_isReading : yX11_isReading.cls = RX11 ∧ yX11_isReading.cls ≠ "java/lang/invoke/MethodHandle" ∧ yX11_isReading.cls ≠ "java/lang/invoke/VarHandle" ∧ (parseMethodDescriptor yX11_isReading.desc).map (fun d => d.parameters.length) = some 3 := by decide +kernel
theorem hd_X11_isSense : yX11_isSense.cls = RX11 ∧ yX11_isSense.cls ≠ "java/lang/invoke/MethodHandle" ∧ yX11_isSense.cls ≠ "java/lang/invoke/VarHandle" ∧ (parseMethodDescriptor yX11_isSense.desc).map (fun d => d.parameters.length) = some 1 := by decide +kernel
theorem hd_X11_isText : yX11_isText.cls = RX11 ∧ yX11_isText.cls ≠ "java/lang/invoke/MethodHandle" ∧ yX11_isText.cls ≠ "java/lang/invoke/VarHandle" ∧ (parseMethodDescriptor yX11_isText.desc).map (fun d => d.parameters.length) = some 1 := by decide +kernel
theorem hd_X11_isWord : yX11_isWord.cls = RX11 ∧ yX11_isWord.cls ≠ "java/lang/invoke/MethodHandle" ∧ yX11_isWord.cls ≠ "java/lang/invoke/VarHandle" ∧ (parseMethodDescriptor yX11_isWord.desc).map (fun d => d.parameters.length) = some 1 := by decide +kernel
theorem hd_X11_mostMute : yX11_mostMute.cls = RX11 ∧ yX11_mostMute.cls ≠ "java/lang/invoke/MethodHandle" ∧ yX11_mostMute.cls ≠ "java/lang/invoke/VarHandle" ∧ (parseMethodDescriptor yX11_mostMute.desc).map (fun d => d.parameters.length) = some 1 := by decide +kernel
theorem hd_X1_sourceOf : yX1_sourceOf.cls = RX1 ∧ yX1_sourceOf.cls ≠ "java/lang/invoke/MethodHandle" ∧ yX1_sourceOf.cls ≠ "java/lang/invoke/VarHandle" ∧ (parseMethodDescriptor yX1_sourceOf.desc).map (fun d => d.parameters.length) = some 2 := by decide +kernel
theorem hd_X7_copyDown : yX7_copyDown.cls = RX7 ∧ yX7_copyDown.cls ≠ "java/lang/invoke/MethodHandle" ∧ yX7_copyDown.cls ≠ "java/lang/invoke/VarHandle" ∧ (parseMethodDescriptor yX7_copyDown.desc).map (fun d => d.parameters.length) = some 0 := by decide +kernel
theorem hs_J6_bitCount_0f7a4 : yJ6_bitCount_0f7a4.cls ≠ "java/lang/invoke/MethodHandle" ∧ yJ6_bitCount_0f7a4.cls ≠ "java/lang/invoke/VarHandle" ∧ (parseMethodDescriptor yJ6_bitCount_0f7a4.desc).map (fun d => d.parameters.length) = some 1 := by decide +kernel
theorem hs_X11_isDay : yX11_isDay.cls ≠ "java/lang/invoke/MethodHandle" ∧ yX11_isDay.cls ≠ "java/lang/invoke/VarHandle" ∧ (parseMethodDescriptor yX11_isDay.desc).map (fun d => d.parameters.length) = some 1 := by decide +kernel
theorem hs_X11_isPart : yX11_isPart.cls ≠ "java/lang/invoke/MethodHandle" ∧ yX11_isPart.cls ≠ "java/lang/invoke/VarHandle" ∧ (parseMethodDescriptor yX11_isPart.desc).map (fun d => d.parameters.length) = some 1 := by decide +kernel
theorem mm_cases5 {v : Int32} (h : mm_rg v 0 4) : v = 0 ∨ v = 1 ∨ v = 2 ∨ v = 3 ∨ v = 4 := by
  have q : v.toInt = 0 ∨ v.toInt = 1 ∨ v.toInt = 2 ∨ v.toInt = 3 ∨ v.toInt = 4 := by have := h.1; have := h.2; omega
  rcases q with q | q | q | q | q
  · exact Or.inl (mm_eq (q.trans (by decide)))
  · exact Or.inr (Or.inl (mm_eq (q.trans (by decide))))
  · exact Or.inr (Or.inr (Or.inl (mm_eq (q.trans (by decide)))))
  · exact Or.inr (Or.inr (Or.inr (Or.inl (mm_eq (q.trans (by decide))))))
  · exact Or.inr (Or.inr (Or.inr (Or.inr ((mm_eq (q.trans (by decide)))))))
set_option maxHeartbeats 4000000 in
set_option maxRecDepth 100000 in
theorem K342_X11_book (l : Launch) (G : va_G) (cy : Nat → ClassId) (sz : Nat) (a_0 : Nat) (a_1 : Nat) (a_2 : Nat) (a_3 : Nat) (a_4 : Nat) (a_5 : Nat) (a_6 : Nat) (a_7 : Nat) (a_8 : Nat) (a_9 : Nat) (a_10 : Nat) (a_11 : Nat) (a_12 : Nat) (i_0 : Int32) (f_0 : Nat → Int32) (a_13 : Nat) (i_1 : Int32) (i_2 : Int32) (i_3 : Int32) (i_4 : Int32) (i_5 : Int32) (i_6 : Int32) (i_7 : Int32) (i_8 : Int32) (i_9 : Int32) (i_10 : Int32) (i_11 : Int32) (i_12 : Int32) (i_13 : Int32) (i_14 : Int32) (a_14 : Nat) (a_15 : Nat) (a_16 : Nat) (a_17 : Nat) (a_18 : Nat) (a_19 : Nat) (a_20 : Nat) (a_21 : Nat) (a_22 : Nat) (a_23 : Nat) (f_1 : Nat → Int32) (f_2 : Nat → Int32) (f_3 : Nat → Int32) (f_4 : Nat → Int32) (f_5 : Nat → Int32) (f_6 : Nat → Int32) (f_7 : Nat → Int32) (f_8 : Nat → Int32) (f_9 : Nat → Int32) (f_10 : Nat → Int32) (a_24 : Nat) (a_25 : Nat) (i_15 : Int32) (i_16 : Int32) (i_17 : Int32) (i_18 : Int32) (i_19 : Int32) (i_20 : Int32) (i_21 : Int32) (i_22 : Int32) (a_26 : Nat) (a_27 : Nat) (a_28 : Nat) (a_29 : Nat) (a_30 : Nat) (a_31 : Nat) (a_32 : Nat) (a_33 : Nat) (a_34 : Nat) (a_35 : Nat) (f_11 : Nat → Int32) (f_12 : Nat → Int32) (f_13 : Nat → Int32) (f_14 : Nat → Int32) (f_15 : Nat → Int32) (f_16 : Nat → Int32) (f_17 : Nat → Int32) (f_18 : Nat → Int32) (f_19 : Nat → Int32) (f_20 : Nat → Int32) (a_36 : Nat) (a_37 : Nat) (a_38 : Nat) (a_39 : Nat) (a_40 : Nat) (i_23 : Int32) (i_24 : Int32) (i_25 : Int32) (f_21 : Nat → Int32) (f_22 : Nat → Int32) (a_41 : Nat) (a_42 : Nat) (i_26 : Int32) (i_27 : Int32) (i_28 : Int32) (f_23 : Nat → Int32) (f_24 : Nat → Int32) (a_43 : Nat) (a_44 : Nat) (i_29 : Int32) (i_30 : Int32) (i_31 : Int32) (f_25 : Nat → Int32) (f_26 : Nat → Int32) (h0 : mm_rg i_0 0 600) (h1 : mm_ar f_0 (-128) 127) (h2 : mm_rg i_1 0 3) (h3 : mm_rg i_3 0 5) (h4 : mm_rg i_4 0 600) (h5 : mm_rg i_5 0 600) (h6 : mm_rg i_8 0 10) (h7 : mm_rg i_9 0 99) (h8 : mm_rg i_10 0 99) (h9 : mm_rg i_11 0 9) (h10 : mm_rg i_12 0 3) (h11 : mm_rg i_13 0 6) (h12 : mm_rg i_14 0 30) (h13 : mm_ar f_1 (-1) 4) (h14 : mm_ar f_2 0 99) (h15 : mm_ar f_3 0 7) (h16 : mm_ar f_4 0 9) (h17 : mm_ar f_5 0 8) (h18 : mm_ar f_6 0 9) (h19 : mm_ar f_7 0 9) (h20 : mm_ar f_8 (-1) 2) (h21 : mm_ar f_9 0 99) (h22 : mm_ar f_10 0 9) (h23 : mm_rg i_16 0 10) (h24 : mm_rg i_17 0 99) (h25 : mm_rg i_18 0 99) (h26 : mm_rg i_19 0 9) (h27 : mm_rg i_20 0 3) (h28 : mm_rg i_21 0 6) (h29 : mm_rg i_22 0 30) (h30 : mm_ar f_11 (-1) 4) (h31 : mm_ar f_12 0 99) (h32 : mm_ar f_13 0 7) (h33 : mm_ar f_14 0 9) (h34 : mm_ar f_15 0 8) (h35 : mm_ar f_16 0 9) (h36 : mm_ar f_17 0 9) (h37 : mm_ar f_18 (-1) 2) (h38 : mm_ar f_19 0 99) (h39 : mm_ar f_20 0 9) (h40 : mm_rg i_23 1 10) (h41 : mm_rg i_25 (-2147483648) 210) (h42 : mm_ar f_21 0 9) (h43 : mm_ar f_22 0 9) (h44 : mm_rg i_26 1 10) (h45 : mm_rg i_28 (-2147483648) 210) (h46 : mm_ar f_23 0 9) (h47 : mm_ar f_24 0 9) (h48 : mm_rg i_29 1 10) (h49 : mm_rg i_31 (-2147483648) 210) (h50 : mm_ar f_25 0 9) (h51 : mm_ar f_26 0 9) (h52 : mm_act f_8 f_9) (h53 : mm_act f_18 f_19)  : mm_CI l yX11_book (mm_ws yX11_book cX11_book 1 (some .int)) ({ frames := 9, cells := 0, slots := 0, locals := 191 } : Room) G cy sz [(a_0, .inr (11, [.ref a_1, .ref a_2, .ref a_3, .ref a_4, .ref a_5, .ref a_6, .ref a_7, .ref a_8, .ref a_9, .ref a_10, .ref a_11])), (a_1, .inr (9, [.ref a_12, .int i_0])), (a_12, .inl (cy 0, 600, .inl f_0)), (a_2, .inr (7, [.ref a_1, .ref a_13, .int i_1, .int i_2, .int i_3, .int i_4, .int i_5, .int i_6])), (a_13, .inr (0, [.int i_7, .int i_8, .int i_9, .int i_10, .int i_11, .int i_12, .int i_13, .int i_14, .ref a_14, .ref a_15, .ref a_16, .ref a_17, .ref a_18, .ref a_19, .ref a_20, .ref a_21, .ref a_22, .ref a_23])), (a_14, .inl (cy 1, 9, .inl f_1)), (a_15, .inl (cy 1, 9, .inl f_2)), (a_16, .inl (cy 1, 3, .inl f_3)), (a_17, .inl (cy 1, 210, .inl f_4)), (a_18, .inl (cy 1, 6, .inl f_5)), (a_19, .inl (cy 1, 48, .inl f_6)), (a_20, .inl (cy 1, 30, .inl f_7)), (a_21, .inl (cy 1, 30, .inl f_8)), (a_22, .inl (cy 1, 30, .inl f_9)), (a_23, .inl (cy 1, 30, .inl f_10)), (a_3, .inr (10, [.ref a_24, .ref a_25])), (a_24, .inr (0, [.int i_15, .int i_16, .int i_17, .int i_18, .int i_19, .int i_20, .int i_21, .int i_22, .ref a_26, .ref a_27, .ref a_28, .ref a_29, .ref a_30, .ref a_31, .ref a_32, .ref a_33, .ref a_34, .ref a_35])), (a_26, .inl (cy 1, 9, .inl f_11)), (a_27, .inl (cy 1, 9, .inl f_12)), (a_28, .inl (cy 1, 3, .inl f_13)), (a_29, .inl (cy 1, 210, .inl f_14)), (a_30, .inl (cy 1, 6, .inl f_15)), (a_31, .inl (cy 1, 48, .inl f_16)), (a_32, .inl (cy 1, 30, .inl f_17)), (a_33, .inl (cy 1, 30, .inl f_18)), (a_34, .inl (cy 1, 30, .inl f_19)), (a_35, .inl (cy 1, 30, .inl f_20)), (a_25, .inl (cy 5, 3, .inr (.inr (.inr (.inr (va_up (va_up (va_up (fun _ => none) 0 (some a_36)) 1 (some a_37)) 2 (some a_38))))))), (a_36, .inr (1, [.ref a_39, .ref a_40, .int i_23, .int i_24, .int i_25])), (a_39, .inl (cy 1, 2100, .inl f_21)), (a_40, .inl (cy 1, 10, .inl f_22)), (a_37, .inr (1, [.ref a_41, .ref a_42, .int i_26, .int i_27, .int i_28])), (a_41, .inl (cy 1, 2100, .inl f_23)), (a_42, .inl (cy 1, 10, .inl f_24)), (a_38, .inr (1, [.ref a_43, .ref a_44, .int i_29, .int i_30, .int i_31])), (a_43, .inl (cy 1, 2100, .inl f_25)), (a_44, .inl (cy 1, 10, .inl f_26))] [.ref a_0] (fun u : Int32 × Int32 × Int32 × Int32 × Int32 × Int32 × Int32 × Int32 × Int32 × Int32 × Int32 × Int32 × Int32 × Int32 × (Nat → Int32) × (Nat → Int32) × (Nat → Int32) × (Nat → Int32) × (Nat → Int32) × (Nat → Int32) × (Nat → Int32) × Int32 × Int32 × Int32 × Int32 × Int32 × Int32 × Int32 × Int32 × (Nat → Int32) × (Nat → Int32) × (Nat → Int32) × (Nat → Int32) × (Nat → Int32) × (Nat → Int32) × (Nat → Int32) × (Nat → Int32) × (Nat → Int32) × (Nat → Int32) × Int32 × Int32 × Int32 × (Nat → Int32) × (Nat → Int32) × Int32 × Int32 × Int32 × (Nat → Int32) × (Nat → Int32) × Int32 × Int32 × Int32 × (Nat → Int32) × (Nat → Int32) => [(a_0, .inr (11, [.ref a_1, .ref a_2, .ref a_3, .ref a_4, .ref a_5, .ref a_6, .ref a_7, .ref a_8, .ref a_9, .ref a_10, .ref a_11])), (a_1, .inr (9, [.ref a_12, .int u.1])), (a_12, .inl (cy 0, 600, .inl f_0)), (a_2, .inr (7, [.ref a_1, .ref a_13, .int u.2.1, .int u.2.2.1, .int u.2.2.2.1, .int u.2.2.2.2.1, .int u.2.2.2.2.2.1, .int u.2.2.2.2.2.2.1])), (a_13, .inr (0, [.int u.2.2.2.2.2.2.2.1, .int u.2.2.2.2.2.2.2.2.1, .int u.2.2.2.2.2.2.2.2.2.1, .int u.2.2.2.2.2.2.2.2.2.2.1, .int u.2.2.2.2.2.2.2.2.2.2.2.1, .int u.2.2.2.2.2.2.2.2.2.2.2.2.1, .int u.2.2.2.2.2.2.2.2.2.2.2.2.2.1, .int 0, .ref a_14, .ref a_15, .ref a_16, .ref a_17, .ref a_18, .ref a_19, .ref a_20, .ref a_21, .ref a_22, .ref a_23])), (a_14, .inl (cy 1, 9, .inl u.2.2.2.2.2.2.2.2.2.2.2.2.2.2.1)), (a_15, .inl (cy 1, 9, .inl u.2.2.2.2.2.2.2.2.2.2.2.2.2.2.2.1)), (a_16, .inl (cy 1, 3, .inl u.2.2.2.2.2.2.2.2.2.2.2.2.2.2.2.2.1)), (a_17, .inl (cy 1, 210, .inl u.2.2.2.2.2.2.2.2.2.2.2.2.2.2.2.2.2.1)), (a_18, .inl (cy 1, 6, .inl u.2.2.2.2.2.2.2.2.2.2.2.2.2.2.2.2.2.2.1)), (a_19, .inl (cy 1, 48, .inl u.2.2.2.2.2.2.2.2.2.2.2.2.2.2.2.2.2.2.2.1)), (a_20, .inl (cy 1, 30, .inl u.2.2.2.2.2.2.2.2.2.2.2.2.2.2.2.2.2.2.2.2.1)), (a_21, .inl (cy 1, 30, .inl f_8)), (a_22, .inl (cy 1, 30, .inl f_9)), (a_23, .inl (cy 1, 30, .inl f_10)), (a_3, .inr (10, [.ref a_24, .ref a_25])), (a_24, .inr (0, [.int u.2.2.2.2.2.2.2.2.2.2.2.2.2.2.2.2.2.2.2.2.2.1, .int u.2.2.2.2.2.2.2.2.2.2.2.2.2.2.2.2.2.2.2.2.2.2.1, .int u.2.2.2.2.2.2.2.2.2.2.2.2.2.2.2.2.2.2.2.2.2.2.2.1, .int u.2.2.2.2.2.2.2.2.2.2.2.2.2.2.2.2.2.2.2.2.2.2.2.2.1, .int u.2.2.2.2.2.2.2.2.2.2.2.2.2.2.2.2.2.2.2.2.2.2.2.2.2.1, .int u.2.2.2.2.2.2.2.2.2.2.2.2.2.2.2.2.2.2.2.2.2.2.2.2.2.2.1, .int u.2.2.2.2.2.2.2.2.2.2.2.2.2.2.2.2.2.2.2.2.2.2.2.2.2.2.2.1, .int u.2.2.2.2.2.2.2.2.2.2.2.2.2.2.2.2.2.2.2.2.2.2.2.2.2.2.2.2.1, .ref a_26, .ref a_27, .ref a_28, .ref a_29, .ref a_30, .ref a_31, .ref a_32, .ref a_33, .ref a_34, .ref a_35])), (a_26, .inl (cy 1, 9, .inl u.2.2.2.2.2.2.2.2.2.2.2.2.2.2.2.2.2.2.2.2.2.2.2.2.2.2.2.2.2.1)), (a_27, .inl (cy 1, 9, .inl u.2.2.2.2.2.2.2.2.2.2.2.2.2.2.2.2.2.2.2.2.2.2.2.2.2.2.2.2.2.2.1)), (a_28, .inl (cy 1, 3, .inl u.2.2.2.2.2.2.2.2.2.2.2.2.2.2.2.2.2.2.2.2.2.2.2.2.2.2.2.2.2.2.2.1)), (a_29, .inl (cy 1, 210, .inl u.2.2.2.2.2.2.2.2.2.2.2.2.2.2.2.2.2.2.2.2.2.2.2.2.2.2.2.2.2.2.2.2.1)), (a_30, .inl (cy 1, 6, .inl u.2.2.2.2.2.2.2.2.2.2.2.2.2.2.2.2.2.2.2.2.2.2.2.2.2.2.2.2.2.2.2.2.2.1)), (a_31, .inl (cy 1, 48, .inl u.2.2.2.2.2.2.2.2.2.2.2.2.2.2.2.2.2.2.2.2.2.2.2.2.2.2.2.2.2.2.2.2.2.2.1)), (a_32, .inl (cy 1, 30, .inl u.2.2.2.2.2.2.2.2.2.2.2.2.2.2.2.2.2.2.2.2.2.2.2.2.2.2.2.2.2.2.2.2.2.2.2.1)), (a_33, .inl (cy 1, 30, .inl u.2.2.2.2.2.2.2.2.2.2.2.2.2.2.2.2.2.2.2.2.2.2.2.2.2.2.2.2.2.2.2.2.2.2.2.2.1)), (a_34, .inl (cy 1, 30, .inl u.2.2.2.2.2.2.2.2.2.2.2.2.2.2.2.2.2.2.2.2.2.2.2.2.2.2.2.2.2.2.2.2.2.2.2.2.2.1)), (a_35, .inl (cy 1, 30, .inl u.2.2.2.2.2.2.2.2.2.2.2.2.2.2.2.2.2.2.2.2.2.2.2.2.2.2.2.2.2.2.2.2.2.2.2.2.2.2.1)), (a_25, .inl (cy 5, 3, .inr (.inr (.inr (.inr (va_up (va_up (va_up (fun _ => none) 0 (some a_36)) 1 (some a_37)) 2 (some a_38))))))), (a_36, .inr (1, [.ref a_39, .ref a_40, .int u.2.2.2.2.2.2.2.2.2.2.2.2.2.2.2.2.2.2.2.2.2.2.2.2.2.2.2.2.2.2.2.2.2.2.2.2.2.2.2.1, .int u.2.2.2.2.2.2.2.2.2.2.2.2.2.2.2.2.2.2.2.2.2.2.2.2.2.2.2.2.2.2.2.2.2.2.2.2.2.2.2.2.1, .int u.2.2.2.2.2.2.2.2.2.2.2.2.2.2.2.2.2.2.2.2.2.2.2.2.2.2.2.2.2.2.2.2.2.2.2.2.2.2.2.2.2.1])), (a_39, .inl (cy 1, 2100, .inl u.2.2.2.2.2.2.2.2.2.2.2.2.2.2.2.2.2.2.2.2.2.2.2.2.2.2.2.2.2.2.2.2.2.2.2.2.2.2.2.2.2.2.1)), (a_40, .inl (cy 1, 10, .inl u.2.2.2.2.2.2.2.2.2.2.2.2.2.2.2.2.2.2.2.2.2.2.2.2.2.2.2.2.2.2.2.2.2.2.2.2.2.2.2.2.2.2.2.1)), (a_37, .inr (1, [.ref a_41, .ref a_42, .int u.2.2.2.2.2.2.2.2.2.2.2.2.2.2.2.2.2.2.2.2.2.2.2.2.2.2.2.2.2.2.2.2.2.2.2.2.2.2.2.2.2.2.2.2.1, .int u.2.2.2.2.2.2.2.2.2.2.2.2.2.2.2.2.2.2.2.2.2.2.2.2.2.2.2.2.2.2.2.2.2.2.2.2.2.2.2.2.2.2.2.2.2.1, .int u.2.2.2.2.2.2.2.2.2.2.2.2.2.2.2.2.2.2.2.2.2.2.2.2.2.2.2.2.2.2.2.2.2.2.2.2.2.2.2.2.2.2.2.2.2.2.1])), (a_41, .inl (cy 1, 2100, .inl u.2.2.2.2.2.2.2.2.2.2.2.2.2.2.2.2.2.2.2.2.2.2.2.2.2.2.2.2.2.2.2.2.2.2.2.2.2.2.2.2.2.2.2.2.2.2.2.1)), (a_42, .inl (cy 1, 10, .inl u.2.2.2.2.2.2.2.2.2.2.2.2.2.2.2.2.2.2.2.2.2.2.2.2.2.2.2.2.2.2.2.2.2.2.2.2.2.2.2.2.2.2.2.2.2.2.2.2.1)), (a_38, .inr (1, [.ref a_43, .ref a_44, .int u.2.2.2.2.2.2.2.2.2.2.2.2.2.2.2.2.2.2.2.2.2.2.2.2.2.2.2.2.2.2.2.2.2.2.2.2.2.2.2.2.2.2.2.2.2.2.2.2.2.1, .int u.2.2.2.2.2.2.2.2.2.2.2.2.2.2.2.2.2.2.2.2.2.2.2.2.2.2.2.2.2.2.2.2.2.2.2.2.2.2.2.2.2.2.2.2.2.2.2.2.2.2.1, .int u.2.2.2.2.2.2.2.2.2.2.2.2.2.2.2.2.2.2.2.2.2.2.2.2.2.2.2.2.2.2.2.2.2.2.2.2.2.2.2.2.2.2.2.2.2.2.2.2.2.2.2.1])), (a_43, .inl (cy 1, 2100, .inl u.2.2.2.2.2.2.2.2.2.2.2.2.2.2.2.2.2.2.2.2.2.2.2.2.2.2.2.2.2.2.2.2.2.2.2.2.2.2.2.2.2.2.2.2.2.2.2.2.2.2.2.2.1)), (a_44, .inl (cy 1, 10, .inl u.2.2.2.2.2.2.2.2.2.2.2.2.2.2.2.2.2.2.2.2.2.2.2.2.2.2.2.2.2.2.2.2.2.2.2.2.2.2.2.2.2.2.2.2.2.2.2.2.2.2.2.2.2))]) (fun (r : Int32) (u : Int32 × Int32 × Int32 × Int32 × Int32 × Int32 × Int32 × Int32 × Int32 × Int32 × Int32 × Int32 × Int32 × Int32 × (Nat → Int32) × (Nat → Int32) × (Nat → Int32) × (Nat → Int32) × (Nat → Int32) × (Nat → Int32) × (Nat → Int32) × Int32 × Int32 × Int32 × Int32 × Int32 × Int32 × Int32 × Int32 × (Nat → Int32) × (Nat → Int32) × (Nat → Int32) × (Nat → Int32) × (Nat → Int32) × (Nat → Int32) × (Nat → Int32) × (Nat → Int32) × (Nat → Int32) × (Nat → Int32) × Int32 × Int32 × Int32 × (Nat → Int32) × (Nat → Int32) × Int32 × Int32 × Int32 × (Nat → Int32) × (Nat → Int32) × Int32 × Int32 × Int32 × (Nat → Int32) × (Nat → Int32)) => mm_rg u.1 0 600 ∧ mm_rg u.2.1 0 3 ∧ mm_rg u.2.2.2.1 0 5 ∧ mm_rg u.2.2.2.2.1 0 600 ∧ mm_rg u.2.2.2.2.2.1 0 600 ∧ mm_rg u.2.2.2.2.2.2.2.2.1 0 10 ∧ mm_rg u.2.2.2.2.2.2.2.2.2.1 0 99 ∧ mm_rg u.2.2.2.2.2.2.2.2.2.2.1 0 99 ∧ mm_rg u.2.2.2.2.2.2.2.2.2.2.2.1 0 9 ∧ mm_rg u.2.2.2.2.2.2.2.2.2.2.2.2.1 0 3 ∧ mm_rg u.2.2.2.2.2.2.2.2.2.2.2.2.2.1 0 6 ∧ mm_ar u.2.2.2.2.2.2.2.2.2.2.2.2.2.2.1 (-1) 4 ∧ mm_ar u.2.2.2.2.2.2.2.2.2.2.2.2.2.2.2.1 0 99 ∧ mm_ar u.2.2.2.2.2.2.2.2.2.2.2.2.2.2.2.2.1 0 7 ∧ mm_ar u.2.2.2.2.2.2.2.2.2.2.2.2.2.2.2.2.2.1 0 9 ∧ mm_ar u.2.2.2.2.2.2.2.2.2.2.2.2.2.2.2.2.2.2.1 0 8 ∧ mm_ar u.2.2.2.2.2.2.2.2.2.2.2.2.2.2.2.2.2.2.2.1 0 9 ∧ mm_ar u.2.2.2.2.2.2.2.2.2.2.2.2.2.2.2.2.2.2.2.2.1 0 9 ∧ mm_rg u.2.2.2.2.2.2.2.2.2.2.2.2.2.2.2.2.2.2.2.2.2.2.1 0 10 ∧ mm_rg u.2.2.2.2.2.2.2.2.2.2.2.2.2.2.2.2.2.2.2.2.2.2.2.1 0 99 ∧ mm_rg u.2.2.2.2.2.2.2.2.2.2.2.2.2.2.2.2.2.2.2.2.2.2.2.2.1 0 99 ∧ mm_rg u.2.2.2.2.2.2.2.2.2.2.2.2.2.2.2.2.2.2.2.2.2.2.2.2.2.1 0 9 ∧ mm_rg u.2.2.2.2.2.2.2.2.2.2.2.2.2.2.2.2.2.2.2.2.2.2.2.2.2.2.1 0 3 ∧ mm_rg u.2.2.2.2.2.2.2.2.2.2.2.2.2.2.2.2.2.2.2.2.2.2.2.2.2.2.2.1 0 6 ∧ mm_rg u.2.2.2.2.2.2.2.2.2.2.2.2.2.2.2.2.2.2.2.2.2.2.2.2.2.2.2.2.1 0 30 ∧ mm_ar u.2.2.2.2.2.2.2.2.2.2.2.2.2.2.2.2.2.2.2.2.2.2.2.2.2.2.2.2.2.1 (-1) 4 ∧ mm_ar u.2.2.2.2.2.2.2.2.2.2.2.2.2.2.2.2.2.2.2.2.2.2.2.2.2.2.2.2.2.2.1 0 99 ∧ mm_ar u.2.2.2.2.2.2.2.2.2.2.2.2.2.2.2.2.2.2.2.2.2.2.2.2.2.2.2.2.2.2.2.1 0 7 ∧ mm_ar u.2.2.2.2.2.2.2.2.2.2.2.2.2.2.2.2.2.2.2.2.2.2.2.2.2.2.2.2.2.2.2.2.1 0 9 ∧ mm_ar u.2.2.2.2.2.2.2.2.2.2.2.2.2.2.2.2.2.2.2.2.2.2.2.2.2.2.2.2.2.2.2.2.2.1 0 8 ∧ mm_ar u.2.2.2.2.2.2.2.2.2.2.2.2.2.2.2.2.2.2.2.2.2.2.2.2.2.2.2.2.2.2.2.2.2.2.1 0 9 ∧ mm_ar u.2.2.2.2.2.2.2.2.2.2.2.2.2.2.2.2.2.2.2.2.2.2.2.2.2.2.2.2.2.2.2.2.2.2.2.1 0 9 ∧ mm_ar u.2.2.2.2.2.2.2.2.2.2.2.2.2.2.2.2.2.2.2.2.2.2.2.2.2.2.2.2.2.2.2.2.2.2.2.2.1 (-1) 2 ∧ mm_ar u.2.2.2.2.2.2.2.2.2.2.2.2.2.2.2.2.2.2.2.2.2.2.2.2.2.2.2.2.2.2.2.2.2.2.2.2.2.1 0 99 ∧ mm_ar u.2.2.2.2.2.2.2.2.2.2.2.2.2.2.2.2.2.2.2.2.2.2.2.2.2.2.2.2.2.2.2.2.2.2.2.2.2.2.1 0 9 ∧ mm_rg u.2.2.2.2.2.2.2.2.2.2.2.2.2.2.2.2.2.2.2.2.2.2.2.2.2.2.2.2.2.2.2.2.2.2.2.2.2.2.2.1 1 10 ∧ mm_rg u.2.2.2.2.2.2.2.2.2.2.2.2.2.2.2.2.2.2.2.2.2.2.2.2.2.2.2.2.2.2.2.2.2.2.2.2.2.2.2.2.2.1 (-2147483648) 210 ∧ mm_ar u.2.2.2.2.2.2.2.2.2.2.2.2.2.2.2.2.2.2.2.2.2.2.2.2.2.2.2.2.2.2.2.2.2.2.2.2.2.2.2.2.2.2.1 0 9 ∧ mm_ar u.2.2.2.2.2.2.2.2.2.2.2.2.2.2.2.2.2.2.2.2.2.2.2.2.2.2.2.2.2.2.2.2.2.2.2.2.2.2.2.2.2.2.2.1 0 9 ∧ mm_rg u.2.2.2.2.2.2.2.2.2.2.2.2.2.2.2.2.2.2.2.2.2.2.2.2.2.2.2.2.2.2.2.2.2.2.2.2.2.2.2.2.2.2.2.2.1 1 10 ∧ mm_rg u.2.2.2.2.2.2.2.2.2.2.2.2.2.2.2.2.2.2.2.2.2.2.2.2.2.2.2.2.2.2.2.2.2.2.2.2.2.2.2.2.2.2.2.2.2.2.1 (-2147483648) 210 ∧ mm_ar u.2.2.2.2.2.2.2.2.2.2.2.2.2.2.2.2.2.2.2.2.2.2.2.2.2.2.2.2.2.2.2.2.2.2.2.2.2.2.2.2.2.2.2.2.2.2.2.1 0 9 ∧ mm_ar u.2.2.2.2.2.2.2.2.2.2.2.2.2.2.2.2.2.2.2.2.2.2.2.2.2.2.2.2.2.2.2.2.2.2.2.2.2.2.2.2.2.2.2.2.2.2.2.2.1 0 9 ∧ mm_rg u.2.2.2.2.2.2.2.2.2.2.2.2.2.2.2.2.2.2.2.2.2.2.2.2.2.2.2.2.2.2.2.2.2.2.2.2.2.2.2.2.2.2.2.2.2.2.2.2.2.1 1 10 ∧ mm_rg u.2.2.2.2.2.2.2.2.2.2.2.2.2.2.2.2.2.2.2.2.2.2.2.2.2.2.2.2.2.2.2.2.2.2.2.2.2.2.2.2.2.2.2.2.2.2.2.2.2.2.2.1 (-2147483648) 210 ∧ mm_ar u.2.2.2.2.2.2.2.2.2.2.2.2.2.2.2.2.2.2.2.2.2.2.2.2.2.2.2.2.2.2.2.2.2.2.2.2.2.2.2.2.2.2.2.2.2.2.2.2.2.2.2.2.1 0 9 ∧ mm_ar u.2.2.2.2.2.2.2.2.2.2.2.2.2.2.2.2.2.2.2.2.2.2.2.2.2.2.2.2.2.2.2.2.2.2.2.2.2.2.2.2.2.2.2.2.2.2.2.2.2.2.2.2.2 0 9 ∧ mm_act u.2.2.2.2.2.2.2.2.2.2.2.2.2.2.2.2.2.2.2.2.2.2.2.2.2.2.2.2.2.2.2.2.2.2.2.2.1 u.2.2.2.2.2.2.2.2.2.2.2.2.2.2.2.2.2.2.2.2.2.2.2.2.2.2.2.2.2.2.2.2.2.2.2.2.2.1 ∧ True) 0 0 := by
  refine mm_begin (lv := [(0, .ref a_0)]) (by decide) (Nat.le_of_ble_eq_true rfl) rfl ?_
  intro p e s m below meth c A ls R args Q H locs hRe hQ hAe hx hb hr hlocks hml hown hnm hts hsz hA hS hP hK hD hZ hl
  have hRf : R.frames = 9 := by rw [hRe]
  have hRl : R.locals = 191 := by rw [hRe]
  have hRc : R.cells = 0 := by rw [hRe]
  have hRs : R.slots = 0 := by rw [hRe]
  refine lv_aload_n hx hb dX11_book_0 rfl (lv_at hl 0 rfl) ?_
  refine va_get (D := G) (ci := 11) (v := .ref a_2) (C := RX11) (T := TX11) (N := 11) hx hb hts (mm_i inlX11) hown hK.1 hP 0 rfl rfl 1 (by decide) (mm_h hts mm_w20) (fun _ h9 => h9) rfl dX11_book_1 ?_
  refine mm_fini (va_runV (As := []) (rest := []) ⟨hx, hb, hml, hown, hts⟩ (K321_X7_copyDown l G cy H.size a_2 a_1 a_12 i_0 f_0 a_13 i_1 i_2 i_3 i_4 i_5 i_6 i_7 i_8 i_9 i_10 i_11 i_12 i_13 i_14 a_14 a_15 a_16 a_17 a_18 a_19 a_20 a_21 a_22 a_23 f_1 f_2 f_3 f_4 f_5 f_6 f_7 h0 h1 h2 h3 h4 h5 h6 h7 h8 h9 h10 h11 h12 h13 h14 h15 h16 h17 h18 h19) (cwV 0 hts (mm_gV mm_w201 mm_w202 mm_w203 mm_w19 mm_w204) rfl rfl rfl hd_X7_copyDown ⟨by rw [hRf]; exact Nat.le_of_ble_eq_true rfl, by rw [hRl]; exact Nat.le_of_ble_eq_true rfl⟩) (mm_preV hK hZ hS hA hP hD [1, 2, 3, 4, 5, 6, 7, 8, 9, 10, 11] rfl rfl 3 rfl rfl rfl) rfl rfl hl.1 rfl (lv_room (Nat.le_of_ble_eq_true rfl)) dX11_book_4 ⟨by rw [hRc]; exact Nat.le_of_ble_eq_true rfl, by rw [hRs]; exact Nat.le_of_ble_eq_true rfl⟩) hP hD hS hA (fun u : Int32 × Int32 × Int32 × Int32 × Int32 × Int32 × Int32 × Int32 × Int32 × Int32 × Int32 × Int32 × Int32 × (Nat → Int32) × (Nat → Int32) × (Nat → Int32) × (Nat → Int32) × (Nat → Int32) × (Nat → Int32) × (Nat → Int32) => [(a_0, .inr (11, [.ref a_1, .ref a_2, .ref a_3, .ref a_4, .ref a_5, .ref a_6, .ref a_7, .ref a_8, .ref a_9, .ref a_10, .ref a_11])), (a_1, .inr (9, [.ref a_12, .int i_0])), (a_12, .inl (cy 0, 600, .inl f_0)), (a_2, .inr (7, [.ref a_1, .ref a_13, .int u.1, .int u.2.1, .int u.2.2.1, .int u.2.2.2.1, .int u.2.2.2.2.1, .int u.2.2.2.2.2.1])), (a_13, .inr (0, [.int u.2.2.2.2.2.2.1, .int u.2.2.2.2.2.2.2.1, .int u.2.2.2.2.2.2.2.2.1, .int u.2.2.2.2.2.2.2.2.2.1, .int u.2.2.2.2.2.2.2.2.2.2.1, .int u.2.2.2.2.2.2.2.2.2.2.2.1, .int u.2.2.2.2.2.2.2.2.2.2.2.2.1, .int 0, .ref a_14, .ref a_15, .ref a_16, .ref a_17, .ref a_18, .ref a_19, .ref a_20, .ref a_21, .ref a_22, .ref a_23])), (a_14, .inl (cy 1, 9, .inl u.2.2.2.2.2.2.2.2.2.2.2.2.2.1)), (a_15, .inl (cy 1, 9, .inl u.2.2.2.2.2.2.2.2.2.2.2.2.2.2.1)), (a_16, .inl (cy 1, 3, .inl u.2.2.2.2.2.2.2.2.2.2.2.2.2.2.2.1)), (a_17, .inl (cy 1, 210, .inl u.2.2.2.2.2.2.2.2.2.2.2.2.2.2.2.2.1)), (a_18, .inl (cy 1, 6, .inl u.2.2.2.2.2.2.2.2.2.2.2.2.2.2.2.2.2.1)), (a_19, .inl (cy 1, 48, .inl u.2.2.2.2.2.2.2.2.2.2.2.2.2.2.2.2.2.2.1)), (a_20, .inl (cy 1, 30, .inl u.2.2.2.2.2.2.2.2.2.2.2.2.2.2.2.2.2.2.2)), (a_21, .inl (cy 1, 30, .inl f_8)), (a_22, .inl (cy 1, 30, .inl f_9)), (a_23, .inl (cy 1, 30, .inl f_10)), (a_3, .inr (10, [.ref a_24, .ref a_25])), (a_24, .inr (0, [.int i_15, .int i_16, .int i_17, .int i_18, .int i_19, .int i_20, .int i_21, .int i_22, .ref a_26, .ref a_27, .ref a_28, .ref a_29, .ref a_30, .ref a_31, .ref a_32, .ref a_33, .ref a_34, .ref a_35])), (a_26, .inl (cy 1, 9, .inl f_11)), (a_27, .inl (cy 1, 9, .inl f_12)), (a_28, .inl (cy 1, 3, .inl f_13)), (a_29, .inl (cy 1, 210, .inl f_14)), (a_30, .inl (cy 1, 6, .inl f_15)), (a_31, .inl (cy 1, 48, .inl f_16)), (a_32, .inl (cy 1, 30, .inl f_17)), (a_33, .inl (cy 1, 30, .inl f_18)), (a_34, .inl (cy 1, 30, .inl f_19)), (a_35, .inl (cy 1, 30, .inl f_20)), (a_25, .inl (cy 5, 3, .inr (.inr (.inr (.inr (va_up (va_up (va_up (fun _ => none) 0 (some a_36)) 1 (some a_37)) 2 (some a_38))))))), (a_36, .inr (1, [.ref a_39, .ref a_40, .int i_23, .int i_24, .int i_25])), (a_39, .inl (cy 1, 2100, .inl f_21)), (a_40, .inl (cy 1, 10, .inl f_22)), (a_37, .inr (1, [.ref a_41, .ref a_42, .int i_26, .int i_27, .int i_28])), (a_41, .inl (cy 1, 2100, .inl f_23)), (a_42, .inl (cy 1, 10, .inl f_24)), (a_38, .inr (1, [.ref a_43, .ref a_44, .int i_29, .int i_30, .int i_31])), (a_43, .inl (cy 1, 2100, .inl f_25)), (a_44, .inl (cy 1, 10, .inl f_26))]) [1, 2, 3, 4, 5, 6, 7, 8, 9, 10, 11] [0, 12, 13, 14, 15, 16, 17, 18, 19, 20, 21, 22, 23, 24, 25, 26, 27, 28, 29, 30, 31, 32, 33, 34, 35, 36] (n := 37) (fun _ => rfl) (by decide +kernel) (by decide +kernel) rfl (fun _ => rfl) (wr := [(a_0, .inr (11, [.ref a_1, .ref a_2, .ref a_3, .ref a_4, .ref a_5, .ref a_6, .ref a_7, .ref a_8, .ref a_9, .ref a_10, .ref a_11])), (a_21, .inl (cy 1, 30, .inl f_8)), (a_22, .inl (cy 1, 30, .inl f_9)), (a_23, .inl (cy 1, 30, .inl f_10)), (a_3, .inr (10, [.ref a_24, .ref a_25])), (a_24, .inr (0, [.int i_15, .int i_16, .int i_17, .int i_18, .int i_19, .int i_20, .int i_21, .int i_22, .ref a_26, .ref a_27, .ref a_28, .ref a_29, .ref a_30, .ref a_31, .ref a_32, .ref a_33, .ref a_34, .ref a_35])), (a_26, .inl (cy 1, 9, .inl f_11)), (a_27, .inl (cy 1, 9, .inl f_12)), (a_28, .inl (cy 1, 3, .inl f_13)), (a_29, .inl (cy 1, 210, .inl f_14)), (a_30, .inl (cy 1, 6, .inl f_15)), (a_31, .inl (cy 1, 48, .inl f_16)), (a_32, .inl (cy 1, 30, .inl f_17)), (a_33, .inl (cy 1, 30, .inl f_18)), (a_34, .inl (cy 1, 30, .inl f_19)), (a_35, .inl (cy 1, 30, .inl f_20)), (a_25, .inl (cy 5, 3, .inr (.inr (.inr (.inr (va_up (va_up (va_up (fun _ => none) 0 (some a_36)) 1 (some a_37)) 2 (some a_38))))))), (a_36, .inr (1, [.ref a_39, .ref a_40, .int i_23, .int i_24, .int i_25])), (a_39, .inl (cy 1, 2100, .inl f_21)), (a_40, .inl (cy 1, 10, .inl f_22)), (a_37, .inr (1, [.ref a_41, .ref a_42, .int i_26, .int i_27, .int i_28])), (a_41, .inl (cy 1, 2100, .inl f_23)), (a_42, .inl (cy 1, 10, .inl f_24)), (a_38, .inr (1, [.ref a_43, .ref a_44, .int i_29, .int i_30, .int i_31])), (a_43, .inl (cy 1, 2100, .inl f_25)), (a_44, .inl (cy 1, 10, .inl f_26))]) rfl (fun _ => rfl) (fun _ => rfl) ?_
  clear hP hD hS
  clear H locs
  intro v21 u
  obtain ⟨n1, n2, n3, n4, n5, n6, n7, n8, n9, n10, n11, n12, n13, n14, n15, n16, n17, n18, n19, n20⟩ := u
  intro H locs hw (hP : va_P G vwCl [(a_0, .inr (11, [.ref a_1, .ref a_2, .ref a_3, .ref a_4, .ref a_5, .ref a_6, .ref a_7, .ref a_8, .ref a_9, .ref a_10, .ref a_11])), (a_1, .inr (9, [.ref a_12, .int i_0])), (a_12, .inl (cy 0, 600, .inl f_0)), (a_2, .inr (7, [.ref a_1, .ref a_13, .int n1, .int n2, .int n3, .int n4, .int n5, .int n6])), (a_13, .inr (0, [.int n7, .int n8, .int n9, .int n10, .int n11, .int n12, .int n13, .int 0, .ref a_14, .ref a_15, .ref a_16, .ref a_17, .ref a_18, .ref a_19, .ref a_20, .ref a_21, .ref a_22, .ref a_23])), (a_14, .inl (cy 1, 9, .inl n14)), (a_15, .inl (cy 1, 9, .inl n15)), (a_16, .inl (cy 1, 3, .inl n16)), (a_17, .inl (cy 1, 210, .inl n17)), (a_18, .inl (cy 1, 6, .inl n18)), (a_19, .inl (cy 1, 48, .inl n19)), (a_20, .inl (cy 1, 30, .inl n20)), (a_21, .inl (cy 1, 30, .inl f_8)), (a_22, .inl (cy 1, 30, .inl f_9)), (a_23, .inl (cy 1, 30, .inl f_10)), (a_3, .inr (10, [.ref a_24, .ref a_25])), (a_24, .inr (0, [.int i_15, .int i_16, .int i_17, .int i_18, .int i_19, .int i_20, .int i_21, .int i_22, .ref a_26, .ref a_27, .ref a_28, .ref a_29, .ref a_30, .ref a_31, .ref a_32, .ref a_33, .ref a_34, .ref a_35])), (a_26, .inl (cy 1, 9, .inl f_11)), (a_27, .inl (cy 1, 9, .inl f_12)), (a_28, .inl (cy 1, 3, .inl f_13)), (a_29, .inl (cy 1, 210, .inl f_14)), (a_30, .inl (cy 1, 6, .inl f_15)), (a_31, .inl (cy 1, 48, .inl f_16)), (a_32, .inl (cy 1, 30, .inl f_17)), (a_33, .inl (cy 1, 30, .inl f_18)), (a_34, .inl (cy 1, 30, .inl f_19)), (a_35, .inl (cy 1, 30, .inl f_20)), (a_25, .inl (cy 5, 3, .inr (.inr (.inr (.inr (va_up (va_up (va_up (fun _ => none) 0 (some a_36)) 1 (some a_37)) 2 (some a_38))))))), (a_36, .inr (1, [.ref a_39, .ref a_40, .int i_23, .int i_24, .int i_25])), (a_39, .inl (cy 1, 2100, .inl f_21)), (a_40, .inl (cy 1, 10, .inl f_22)), (a_37, .inr (1, [.ref a_41, .ref a_42, .int i_26, .int i_27, .int i_28])), (a_41, .inl (cy 1, 2100, .inl f_23)), (a_42, .inl (cy 1, 10, .inl f_24)), (a_38, .inr (1, [.ref a_43, .ref a_44, .int i_29, .int i_30, .int i_31])), (a_43, .inl (cy 1, 2100, .inl f_25)), (a_44, .inl (cy 1, 10, .inl f_26))] H) (hD : va_D A [(a_0, .inr (11, [.ref a_1, .ref a_2, .ref a_3, .ref a_4, .ref a_5, .ref a_6, .ref a_7, .ref a_8, .ref a_9, .ref a_10, .ref a_11])), (a_1, .inr (9, [.ref a_12, .int i_0])), (a_12, .inl (cy 0, 600, .inl f_0)), (a_2, .inr (7, [.ref a_1, .ref a_13, .int n1, .int n2, .int n3, .int n4, .int n5, .int n6])), (a_13, .inr (0, [.int n7, .int n8, .int n9, .int n10, .int n11, .int n12, .int n13, .int 0, .ref a_14, .ref a_15, .ref a_16, .ref a_17, .ref a_18, .ref a_19, .ref a_20, .ref a_21, .ref a_22, .ref a_23])), (a_14, .inl (cy 1, 9, .inl n14)), (a_15, .inl (cy 1, 9, .inl n15)), (a_16, .inl (cy 1, 3, .inl n16)), (a_17, .inl (cy 1, 210, .inl n17)), (a_18, .inl (cy 1, 6, .inl n18)), (a_19, .inl (cy 1, 48, .inl n19)), (a_20, .inl (cy 1, 30, .inl n20)), (a_21, .inl (cy 1, 30, .inl f_8)), (a_22, .inl (cy 1, 30, .inl f_9)), (a_23, .inl (cy 1, 30, .inl f_10)), (a_3, .inr (10, [.ref a_24, .ref a_25])), (a_24, .inr (0, [.int i_15, .int i_16, .int i_17, .int i_18, .int i_19, .int i_20, .int i_21, .int i_22, .ref a_26, .ref a_27, .ref a_28, .ref a_29, .ref a_30, .ref a_31, .ref a_32, .ref a_33, .ref a_34, .ref a_35])), (a_26, .inl (cy 1, 9, .inl f_11)), (a_27, .inl (cy 1, 9, .inl f_12)), (a_28, .inl (cy 1, 3, .inl f_13)), (a_29, .inl (cy 1, 210, .inl f_14)), (a_30, .inl (cy 1, 6, .inl f_15)), (a_31, .inl (cy 1, 48, .inl f_16)), (a_32, .inl (cy 1, 30, .inl f_17)), (a_33, .inl (cy 1, 30, .inl f_18)), (a_34, .inl (cy 1, 30, .inl f_19)), (a_35, .inl (cy 1, 30, .inl f_20)), (a_25, .inl (cy 5, 3, .inr (.inr (.inr (.inr (va_up (va_up (va_up (fun _ => none) 0 (some a_36)) 1 (some a_37)) 2 (some a_38))))))), (a_36, .inr (1, [.ref a_39, .ref a_40, .int i_23, .int i_24, .int i_25])), (a_39, .inl (cy 1, 2100, .inl f_21)), (a_40, .inl (cy 1, 10, .inl f_22)), (a_37, .inr (1, [.ref a_41, .ref a_42, .int i_26, .int i_27, .int i_28])), (a_41, .inl (cy 1, 2100, .inl f_23)), (a_42, .inl (cy 1, 10, .inl f_24)), (a_38, .inr (1, [.ref a_43, .ref a_44, .int i_29, .int i_30, .int i_31])), (a_43, .inl (cy 1, 2100, .inl f_25)), (a_44, .inl (cy 1, 10, .inl f_26))]) hS
  obtain ⟨w22, w23, w24, w25, w26, w27, w28, w29, w30, w31, w32, w33, w34, w35, w36, w37, w38, hw⟩ := hw
  rcases hw with rfl | rfl
  · refine lv_if_ne (tgt := 13) hx hb dX11_book_7 (by decide) (fun c39 => ?_) (fun c39 => ?_)
    · have q40 := mm_neL (lo := 1) (mm_ne c39) mm_k0 mm_k0 (by decide) (by decide)
      exact mm_no q40 (by decide)
    · refine lv_bipush (v := (-4)) hx hb dX11_book_10 (by decide) ?_
      subst hAe
      rw [hQ]
      exact W.iret (v := (-4)) hx hb hr (fun t ht hW => ⟨⟨(-4), (i_0, n1, n2, n3, n4, n5, n6, n7, n8, n9, n10, n11, n12, n13, n14, n15, n16, n17, n18, n19, n20, i_15, i_16, i_17, i_18, i_19, i_20, i_21, i_22, f_11, f_12, f_13, f_14, f_15, f_16, f_17, f_18, f_19, f_20, i_23, i_24, i_25, f_21, f_22, i_26, i_27, i_28, f_23, f_24, i_29, i_30, i_31, f_25, f_26), rfl, ⟨h0, w22, w23, w24, w25, w26, w27, w28, w29, w30, w31, w32, w33, w34, w35, w36, w37, w38, h23, h24, h25, h26, h27, h28, h29, h30, h31, h32, h33, h34, h35, h36, h37, h38, h39, h40, h41, h42, h43, h44, h45, h46, h47, h48, h49, h50, h51, h53, trivial⟩, by rw [ht]; exact hP, hK.warm hW, hD⟩, hS.F ht⟩) hS.2.2 dX11_book_12
  · refine lv_if_ne (tgt := 13) hx hb dX11_book_7 (by decide) (fun c41 => ?_) (fun c41 => ?_)
    · refine lv_aload_n hx hb dX11_book_13 rfl (lv_at hl 0 rfl) ?_
      refine va_get (D := G) (ci := 11) (v := .ref a_1) (C := RX11) (T := TX11) (N := 11) hx hb hts (mm_i inlX11) hown hK.1 hP 0 rfl rfl 0 (by decide) (mm_h hts mm_w16) (fun _ h9 => h9) rfl dX11_book_14 ?_
      refine lv_iconst (v := 0) hx hb dX11_book_17 (by decide) ?_
      refine va_put (D := G) (ci := 9) (v := .int 0) (ty := tyX9 1) (C := RX9) (T := TX9) (N := 2) hx hb hts (mm_i inlX9) tyX9 tyX9_ok nmX9 hown hK.1 hP hD hS 1 rfl rfl 1 (by decide) (mm_h hts mm_w167) (fun _ h9 => h9) rfl (tyX9_ok 1 (by decide)) rfl rfl (Nat.le_of_ble_eq_true rfl) dX11_book_18 ?_
      clear hP hD hS
      clear H locs
      intro H locs (hP : va_P G vwCl [(a_0, .inr (11, [.ref a_1, .ref a_2, .ref a_3, .ref a_4, .ref a_5, .ref a_6, .ref a_7, .ref a_8, .ref a_9, .ref a_10, .ref a_11])), (a_1, .inr (9, [.ref a_12, .int 0])), (a_12, .inl (cy 0, 600, .inl f_0)), (a_2, .inr (7, [.ref a_1, .ref a_13, .int n1, .int n2, .int n3, .int n4, .int n5, .int n6])), (a_13, .inr (0, [.int n7, .int n8, .int n9, .int n10, .int n11, .int n12, .int n13, .int 0, .ref a_14, .ref a_15, .ref a_16, .ref a_17, .ref a_18, .ref a_19, .ref a_20, .ref a_21, .ref a_22, .ref a_23])), (a_14, .inl (cy 1, 9, .inl n14)), (a_15, .inl (cy 1, 9, .inl n15)), (a_16, .inl (cy 1, 3, .inl n16)), (a_17, .inl (cy 1, 210, .inl n17)), (a_18, .inl (cy 1, 6, .inl n18)), (a_19, .inl (cy 1, 48, .inl n19)), (a_20, .inl (cy 1, 30, .inl n20)), (a_21, .inl (cy 1, 30, .inl f_8)), (a_22, .inl (cy 1, 30, .inl f_9)), (a_23, .inl (cy 1, 30, .inl f_10)), (a_3, .inr (10, [.ref a_24, .ref a_25])), (a_24, .inr (0, [.int i_15, .int i_16, .int i_17, .int i_18, .int i_19, .int i_20, .int i_21, .int i_22, .ref a_26, .ref a_27, .ref a_28, .ref a_29, .ref a_30, .ref a_31, .ref a_32, .ref a_33, .ref a_34, .ref a_35])), (a_26, .inl (cy 1, 9, .inl f_11)), (a_27, .inl (cy 1, 9, .inl f_12)), (a_28, .inl (cy 1, 3, .inl f_13)), (a_29, .inl (cy 1, 210, .inl f_14)), (a_30, .inl (cy 1, 6, .inl f_15)), (a_31, .inl (cy 1, 48, .inl f_16)), (a_32, .inl (cy 1, 30, .inl f_17)), (a_33, .inl (cy 1, 30, .inl f_18)), (a_34, .inl (cy 1, 30, .inl f_19)), (a_35, .inl (cy 1, 30, .inl f_20)), (a_25, .inl (cy 5, 3, .inr (.inr (.inr (.inr (va_up (va_up (va_up (fun _ => none) 0 (some a_36)) 1 (some a_37)) 2 (some a_38))))))), (a_36, .inr (1, [.ref a_39, .ref a_40, .int i_23, .int i_24, .int i_25])), (a_39, .inl (cy 1, 2100, .inl f_21)), (a_40, .inl (cy 1, 10, .inl f_22)), (a_37, .inr (1, [.ref a_41, .ref a_42, .int i_26, .int i_27, .int i_28])), (a_41, .inl (cy 1, 2100, .inl f_23)), (a_42, .inl (cy 1, 10, .inl f_24)), (a_38, .inr (1, [.ref a_43, .ref a_44, .int i_29, .int i_30, .int i_31])), (a_43, .inl (cy 1, 2100, .inl f_25)), (a_44, .inl (cy 1, 10, .inl f_26))] H) (hD : va_D A [(a_0, .inr (11, [.ref a_1, .ref a_2, .ref a_3, .ref a_4, .ref a_5, .ref a_6, .ref a_7, .ref a_8, .ref a_9, .ref a_10, .ref a_11])), (a_1, .inr (9, [.ref a_12, .int 0])), (a_12, .inl (cy 0, 600, .inl f_0)), (a_2, .inr (7, [.ref a_1, .ref a_13, .int n1, .int n2, .int n3, .int n4, .int n5, .int n6])), (a_13, .inr (0, [.int n7, .int n8, .int n9, .int n10, .int n11, .int n12, .int n13, .int 0, .ref a_14, .ref a_15, .ref a_16, .ref a_17, .ref a_18, .ref a_19, .ref a_20, .ref a_21, .ref a_22, .ref a_23])), (a_14, .inl (cy 1, 9, .inl n14)), (a_15, .inl (cy 1, 9, .inl n15)), (a_16, .inl (cy 1, 3, .inl n16)), (a_17, .inl (cy 1, 210, .inl n17)), (a_18, .inl (cy 1, 6, .inl n18)), (a_19, .inl (cy 1, 48, .inl n19)), (a_20, .inl (cy 1, 30, .inl n20)), (a_21, .inl (cy 1, 30, .inl f_8)), (a_22, .inl (cy 1, 30, .inl f_9)), (a_23, .inl (cy 1, 30, .inl f_10)), (a_3, .inr (10, [.ref a_24, .ref a_25])), (a_24, .inr (0, [.int i_15, .int i_16, .int i_17, .int i_18, .int i_19, .int i_20, .int i_21, .int i_22, .ref a_26, .ref a_27, .ref a_28, .ref a_29, .ref a_30, .ref a_31, .ref a_32, .ref a_33, .ref a_34, .ref a_35])), (a_26, .inl (cy 1, 9, .inl f_11)), (a_27, .inl (cy 1, 9, .inl f_12)), (a_28, .inl (cy 1, 3, .inl f_13)), (a_29, .inl (cy 1, 210, .inl f_14)), (a_30, .inl (cy 1, 6, .inl f_15)), (a_31, .inl (cy 1, 48, .inl f_16)), (a_32, .inl (cy 1, 30, .inl f_17)), (a_33, .inl (cy 1, 30, .inl f_18)), (a_34, .inl (cy 1, 30, .inl f_19)), (a_35, .inl (cy 1, 30, .inl f_20)), (a_25, .inl (cy 5, 3, .inr (.inr (.inr (.inr (va_up (va_up (va_up (fun _ => none) 0 (some a_36)) 1 (some a_37)) 2 (some a_38))))))), (a_36, .inr (1, [.ref a_39, .ref a_40, .int i_23, .int i_24, .int i_25])), (a_39, .inl (cy 1, 2100, .inl f_21)), (a_40, .inl (cy 1, 10, .inl f_22)), (a_37, .inr (1, [.ref a_41, .ref a_42, .int i_26, .int i_27, .int i_28])), (a_41, .inl (cy 1, 2100, .inl f_23)), (a_42, .inl (cy 1, 10, .inl f_24)), (a_38, .inr (1, [.ref a_43, .ref a_44, .int i_29, .int i_30, .int i_31])), (a_43, .inl (cy 1, 2100, .inl f_25)), (a_44, .inl (cy 1, 10, .inl f_26))]) hS
      refine lv_aload_n hx hb dX11_book_21 rfl (lv_at hl 0 rfl) ?_
      refine va_get (D := G) (ci := 11) (v := .ref a_3) (C := RX11) (T := TX11) (N := 11) hx hb hts (mm_i inlX11) hown hK.1 hP 0 rfl rfl 2 (by decide) (mm_h hts mm_w24) (fun _ h9 => h9) rfl dX11_book_22 ?_
      refine lv_aload_n hx hb dX11_book_25 rfl (lv_at hl 0 rfl) ?_
      refine va_get (D := G) (ci := 11) (v := .ref a_2) (C := RX11) (T := TX11) (N := 11) hx hb hts (mm_i inlX11) hown hK.1 hP 0 rfl rfl 1 (by decide) (mm_h hts mm_w20) (fun _ h9 => h9) rfl dX11_book_26 ?_
      refine va_get (D := G) (ci := 7) (v := .ref a_13) (C := RX7) (T := TX7) (N := 8) hx hb hts (mm_i inlX7) hown hK.1 hP 3 rfl rfl 1 (by decide) (mm_h hts mm_w198) (fun _ h9 => h9) rfl dX11_book_29 ?_
      refine mm_finv (va_runV (As := [.ref a_13]) (rest := []) ⟨hx, hb, hml, hown, hts⟩ (K341_X10_turnTo l G cy H.size a_3 a_13 n7 n8 n9 n10 n11 n12 n13 0 a_14 a_15 a_16 a_17 a_18 a_19 a_20 a_21 a_22 a_23 n14 n15 n16 n17 n18 n19 n20 f_8 f_9 f_10 a_24 a_25 i_15 i_16 i_17 i_18 i_19 i_20 i_21 i_22 a_26 a_27 a_28 a_29 a_30 a_31 a_32 a_33 a_34 a_35 f_11 f_12 f_13 f_14 f_15 f_16 f_17 f_18 f_19 f_20 a_36 a_37 a_38 a_39 a_40 i_23 i_24 i_25 f_21 f_22 a_41 a_42 i_26 i_27 i_28 f_23 f_24 a_43 a_44 i_29 i_30 i_31 f_25 f_26 w26 w27 w28 w29 w30 w31 (mm_wk mm_k0 (by decide)) w32 w33 w34 w35 w36 w37 w38 h20 h21 h22 h23 h24 h25 h26 h27 h28 h29 h30 h31 h32 h33 h34 h35 h36 h37 h38 h39 h40 h41 h42 h43 h44 h45 h46 h47 h48 h49 h50 h51 h52 h53) (cwV 1 hts (mm_gV mm_w372 mm_w373 mm_w374 mm_w23 mm_w375) rfl rfl rfl hd_X10_turnTo ⟨by rw [hRf]; exact Nat.le_of_ble_eq_true rfl, by rw [hRl]; exact Nat.le_of_ble_eq_true rfl⟩) (mm_preV hK hZ hS hA hP hD [4, 5, 6, 7, 8, 9, 10, 11, 12, 13, 14, 15, 16, 17, 18, 19, 20, 21, 22, 23, 24, 25, 26, 27, 28, 29, 30, 31, 32, 33, 34, 35, 36] rfl rfl 15 rfl rfl rfl) rfl rfl hl.1 rfl (lv_room (Nat.le_of_ble_eq_true rfl)) dX11_book_32 ⟨by rw [hRc]; exact Nat.le_of_ble_eq_true rfl, by rw [hRs]; exact Nat.le_of_ble_eq_true rfl⟩) hP hD hS hA (fun u : Int32 × Int32 × Int32 × (Nat → Int32) × (Nat → Int32) × Int32 × Int32 × Int32 × (Nat → Int32) × (Nat → Int32) × Int32 × Int32 × Int32 × (Nat → Int32) × (Nat → Int32) => [(a_0, .inr (11, [.ref a_1, .ref a_2, .ref a_3, .ref a_4, .ref a_5, .ref a_6, .ref a_7, .ref a_8, .ref a_9, .ref a_10, .ref a_11])), (a_1, .inr (9, [.ref a_12, .int 0])), (a_12, .inl (cy 0, 600, .inl f_0)), (a_2, .inr (7, [.ref a_1, .ref a_13, .int n1, .int n2, .int n3, .int n4, .int n5, .int n6])), (a_13, .inr (0, [.int n7, .int n8, .int n9, .int n10, .int n11, .int n12, .int n13, .int 0, .ref a_14, .ref a_15, .ref a_16, .ref a_17, .ref a_18, .ref a_19, .ref a_20, .ref a_21, .ref a_22, .ref a_23])), (a_14, .inl (cy 1, 9, .inl n14)), (a_15, .inl (cy 1, 9, .inl n15)), (a_16, .inl (cy 1, 3, .inl n16)), (a_17, .inl (cy 1, 210, .inl n17)), (a_18, .inl (cy 1, 6, .inl n18)), (a_19, .inl (cy 1, 48, .inl n19)), (a_20, .inl (cy 1, 30, .inl n20)), (a_21, .inl (cy 1, 30, .inl f_8)), (a_22, .inl (cy 1, 30, .inl f_9)), (a_23, .inl (cy 1, 30, .inl f_10)), (a_3, .inr (10, [.ref a_24, .ref a_25])), (a_24, .inr (0, [.int n7, .int n8, .int n9, .int n10, .int n11, .int n12, .int n13, .int 0, .ref a_26, .ref a_27, .ref a_28, .ref a_29, .ref a_30, .ref a_31, .ref a_32, .ref a_33, .ref a_34, .ref a_35])), (a_26, .inl (cy 1, 9, .inl n14)), (a_27, .inl (cy 1, 9, .inl n15)), (a_28, .inl (cy 1, 3, .inl n16)), (a_29, .inl (cy 1, 210, .inl n17)), (a_30, .inl (cy 1, 6, .inl n18)), (a_31, .inl (cy 1, 48, .inl n19)), (a_32, .inl (cy 1, 30, .inl n20)), (a_33, .inl (cy 1, 30, .inl f_8)), (a_34, .inl (cy 1, 30, .inl f_9)), (a_35, .inl (cy 1, 30, .inl f_10)), (a_25, .inl (cy 5, 3, .inr (.inr (.inr (.inr (va_up (va_up (va_up (fun _ => none) 0 (some a_36)) 1 (some a_37)) 2 (some a_38))))))), (a_36, .inr (1, [.ref a_39, .ref a_40, .int u.1, .int u.2.1, .int u.2.2.1])), (a_39, .inl (cy 1, 2100, .inl u.2.2.2.1)), (a_40, .inl (cy 1, 10, .inl u.2.2.2.2.1)), (a_37, .inr (1, [.ref a_41, .ref a_42, .int u.2.2.2.2.2.1, .int u.2.2.2.2.2.2.1, .int u.2.2.2.2.2.2.2.1])), (a_41, .inl (cy 1, 2100, .inl u.2.2.2.2.2.2.2.2.1)), (a_42, .inl (cy 1, 10, .inl u.2.2.2.2.2.2.2.2.2.1)), (a_38, .inr (1, [.ref a_43, .ref a_44, .int u.2.2.2.2.2.2.2.2.2.2.1, .int u.2.2.2.2.2.2.2.2.2.2.2.1, .int u.2.2.2.2.2.2.2.2.2.2.2.2.1])), (a_43, .inl (cy 1, 2100, .inl u.2.2.2.2.2.2.2.2.2.2.2.2.2.1)), (a_44, .inl (cy 1, 10, .inl u.2.2.2.2.2.2.2.2.2.2.2.2.2.2))]) [4, 5, 6, 7, 8, 9, 10, 11, 12, 13, 14, 15, 16, 17, 18, 19, 20, 21, 22, 23, 24, 25, 26, 27, 28, 29, 30, 31, 32, 33, 34, 35, 36] [0, 1, 2, 3] (n := 37) (fun _ => rfl) (by decide +kernel) (by decide +kernel) rfl (fun _ => rfl) (wr := [(a_0, .inr (11, [.ref a_1, .ref a_2, .ref a_3, .ref a_4, .ref a_5, .ref a_6, .ref a_7, .ref a_8, .ref a_9, .ref a_10, .ref a_11])), (a_1, .inr (9, [.ref a_12, .int 0])), (a_12, .inl (cy 0, 600, .inl f_0)), (a_2, .inr (7, [.ref a_1, .ref a_13, .int n1, .int n2, .int n3, .int n4, .int n5, .int n6]))]) rfl (fun _ => rfl) (fun _ => rfl) ?_
      clear hP hD hS
      clear H locs
      intro u
      obtain ⟨n42, n43, n44, n45, n46, n47, n48, n49, n50, n51, n52, n53, n54, n55, n56⟩ := u
      intro H locs hw (hP : va_P G vwCl [(a_0, .inr (11, [.ref a_1, .ref a_2, .ref a_3, .ref a_4, .ref a_5, .ref a_6, .ref a_7, .ref a_8, .ref a_9, .ref a_10, .ref a_11])), (a_1, .inr (9, [.ref a_12, .int 0])), (a_12, .inl (cy 0, 600, .inl f_0)), (a_2, .inr (7, [.ref a_1, .ref a_13, .int n1, .int n2, .int n3, .int n4, .int n5, .int n6])), (a_13, .inr (0, [.int n7, .int n8, .int n9, .int n10, .int n11, .int n12, .int n13, .int 0, .ref a_14, .ref a_15, .ref a_16, .ref a_17, .ref a_18, .ref a_19, .ref a_20, .ref a_21, .ref a_22, .ref a_23])), (a_14, .inl (cy 1, 9, .inl n14)), (a_15, .inl (cy 1, 9, .inl n15)), (a_16, .inl (cy 1, 3, .inl n16)), (a_17, .inl (cy 1, 210, .inl n17)), (a_18, .inl (cy 1, 6, .inl n18)), (a_19, .inl (cy 1, 48, .inl n19)), (a_20, .inl (cy 1, 30, .inl n20)), (a_21, .inl (cy 1, 30, .inl f_8)), (a_22, .inl (cy 1, 30, .inl f_9)), (a_23, .inl (cy 1, 30, .inl f_10)), (a_3, .inr (10, [.ref a_24, .ref a_25])), (a_24, .inr (0, [.int n7, .int n8, .int n9, .int n10, .int n11, .int n12, .int n13, .int 0, .ref a_26, .ref a_27, .ref a_28, .ref a_29, .ref a_30, .ref a_31, .ref a_32, .ref a_33, .ref a_34, .ref a_35])), (a_26, .inl (cy 1, 9, .inl n14)), (a_27, .inl (cy 1, 9, .inl n15)), (a_28, .inl (cy 1, 3, .inl n16)), (a_29, .inl (cy 1, 210, .inl n17)), (a_30, .inl (cy 1, 6, .inl n18)), (a_31, .inl (cy 1, 48, .inl n19)), (a_32, .inl (cy 1, 30, .inl n20)), (a_33, .inl (cy 1, 30, .inl f_8)), (a_34, .inl (cy 1, 30, .inl f_9)), (a_35, .inl (cy 1, 30, .inl f_10)), (a_25, .inl (cy 5, 3, .inr (.inr (.inr (.inr (va_up (va_up (va_up (fun _ => none) 0 (some a_36)) 1 (some a_37)) 2 (some a_38))))))), (a_36, .inr (1, [.ref a_39, .ref a_40, .int n42, .int n43, .int n44])), (a_39, .inl (cy 1, 2100, .inl n45)), (a_40, .inl (cy 1, 10, .inl n46)), (a_37, .inr (1, [.ref a_41, .ref a_42, .int n47, .int n48, .int n49])), (a_41, .inl (cy 1, 2100, .inl n50)), (a_42, .inl (cy 1, 10, .inl n51)), (a_38, .inr (1, [.ref a_43, .ref a_44, .int n52, .int n53, .int n54])), (a_43, .inl (cy 1, 2100, .inl n55)), (a_44, .inl (cy 1, 10, .inl n56))] H) (hD : va_D A [(a_0, .inr (11, [.ref a_1, .ref a_2, .ref a_3, .ref a_4, .ref a_5, .ref a_6, .ref a_7, .ref a_8, .ref a_9, .ref a_10, .ref a_11])), (a_1, .inr (9, [.ref a_12, .int 0])), (a_12, .inl (cy 0, 600, .inl f_0)), (a_2, .inr (7, [.ref a_1, .ref a_13, .int n1, .int n2, .int n3, .int n4, .int n5, .int n6])), (a_13, .inr (0, [.int n7, .int n8, .int n9, .int n10, .int n11, .int n12, .int n13, .int 0, .ref a_14, .ref a_15, .ref a_16, .ref a_17, .ref a_18, .ref a_19, .ref a_20, .ref a_21, .ref a_22, .ref a_23])), (a_14, .inl (cy 1, 9, .inl n14)), (a_15, .inl (cy 1, 9, .inl n15)), (a_16, .inl (cy 1, 3, .inl n16)), (a_17, .inl (cy 1, 210, .inl n17)), (a_18, .inl (cy 1, 6, .inl n18)), (a_19, .inl (cy 1, 48, .inl n19)), (a_20, .inl (cy 1, 30, .inl n20)), (a_21, .inl (cy 1, 30, .inl f_8)), (a_22, .inl (cy 1, 30, .inl f_9)), (a_23, .inl (cy 1, 30, .inl f_10)), (a_3, .inr (10, [.ref a_24, .ref a_25])), (a_24, .inr (0, [.int n7, .int n8, .int n9, .int n10, .int n11, .int n12, .int n13, .int 0, .ref a_26, .ref a_27, .ref a_28, .ref a_29, .ref a_30, .ref a_31, .ref a_32, .ref a_33, .ref a_34, .ref a_35])), (a_26, .inl (cy 1, 9, .inl n14)), (a_27, .inl (cy 1, 9, .inl n15)), (a_28, .inl (cy 1, 3, .inl n16)), (a_29, .inl (cy 1, 210, .inl n17)), (a_30, .inl (cy 1, 6, .inl n18)), (a_31, .inl (cy 1, 48, .inl n19)), (a_32, .inl (cy 1, 30, .inl n20)), (a_33, .inl (cy 1, 30, .inl f_8)), (a_34, .inl (cy 1, 30, .inl f_9)), (a_35, .inl (cy 1, 30, .inl f_10)), (a_25, .inl (cy 5, 3, .inr (.inr (.inr (.inr (va_up (va_up (va_up (fun _ => none) 0 (some a_36)) 1 (some a_37)) 2 (some a_38))))))), (a_36, .inr (1, [.ref a_39, .ref a_40, .int n42, .int n43, .int n44])), (a_39, .inl (cy 1, 2100, .inl n45)), (a_40, .inl (cy 1, 10, .inl n46)), (a_37, .inr (1, [.ref a_41, .ref a_42, .int n47, .int n48, .int n49])), (a_41, .inl (cy 1, 2100, .inl n50)), (a_42, .inl (cy 1, 10, .inl n51)), (a_38, .inr (1, [.ref a_43, .ref a_44, .int n52, .int n53, .int n54])), (a_43, .inl (cy 1, 2100, .inl n55)), (a_44, .inl (cy 1, 10, .inl n56))]) hS
      obtain ⟨w57, w58, w59, w60, w61, w62, w63, w64, w65, w66, w67, w68⟩ := hw
      refine lv_aload_n hx hb dX11_book_35 rfl (lv_at hl 0 rfl) ?_
      refine va_get (D := G) (ci := 11) (v := .ref a_3) (C := RX11) (T := TX11) (N := 11) hx hb hts (mm_i inlX11) hown hK.1 hP 0 rfl rfl 2 (by decide) (mm_h hts mm_w24) (fun _ h9 => h9) rfl dX11_book_36 ?_
      refine va_get (D := G) (ci := 10) (v := .ref a_24) (C := RX10) (T := TX10) (N := 2) hx hb hts (mm_i inlX10) hown hK.1 hP 15 rfl rfl 0 (by decide) (mm_h hts mm_w199) (fun _ h9 => h9) rfl dX11_book_39 ?_
      refine va_get (D := G) (ci := 0) (v := .int n7) (C := RX0) (T := TX0) (N := 18) hx hb hts (mm_i inlX0) hown hK.1 hP 16 rfl rfl 0 (by decide) (mm_h hts mm_w200) (fun _ h9 => h9) rfl dX11_book_42 ?_
      subst hAe
      rw [hQ]
      exact W.iret (v := n7) hx hb hr (fun t ht hW => ⟨⟨n7, (0, n1, n2, n3, n4, n5, n6, n7, n8, n9, n10, n11, n12, n13, n14, n15, n16, n17, n18, n19, n20, n7, n8, n9, n10, n11, n12, n13, 0, n14, n15, n16, n17, n18, n19, n20, f_8, f_9, f_10, n42, n43, n44, n45, n46, n47, n48, n49, n50, n51, n52, n53, n54, n55, n56), rfl, ⟨(mm_wk mm_k0 (by decide)), w22, w23, w24, w25, w26, w27, w28, w29, w30, w31, w32, w33, w34, w35, w36, w37, w38, w26, w27, w28, w29, w30, w31, (mm_wk mm_k0 (by decide)), w32, w33, w34, w35, w36, w37, w38, h20, h21, h22, w57, w58, w59, w60, w61, w62, w63, w64, w65, w66, w67, w68, h52, trivial⟩, by rw [ht]; exact hP, hK.warm hW, hD⟩, hS.F ht⟩) hS.2.2 dX11_book_45
    · exact mm_eqN c41.symm mm_k0 mm_k1 (by decide)

set_option maxHeartbeats 4000000 in
set_option maxRecDepth 100000 in
theorem K343_X11_fault (l : Launch) (G : va_G) (cy : Nat → ClassId) (sz : Nat) (a_0 : Nat) (i_0 : Int32) (a_1 : Nat) (a_2 : Nat) (a_3 : Nat) (a_4 : Nat) (a_5 : Nat) (a_6 : Nat) (a_7 : Nat) (a_8 : Nat) (a_9 : Nat) (a_10 : Nat) (a_11 : Nat) (a_12 : Nat) (i_1 : Int32) (i_2 : Int32) (i_3 : Int32) (i_4 : Int32) (i_5 : Int32) (i_6 : Int32) (h0 : mm_rg i_1 0 3)  : mm_CI l yX11_fault (mm_ws yX11_fault cX11_fault 2 (some .int)) ({ frames := 0, cells := 0, slots := 0, locals := 0 } : Room) G cy sz [(a_0, .inr (11, [.ref a_1, .ref a_2, .ref a_3, .ref a_4, .ref a_5, .ref a_6, .ref a_7, .ref a_8, .ref a_9, .ref a_10, .ref a_11])), (a_2, .inr (7, [.ref a_1, .ref a_12, .int i_1, .int i_2, .int i_3, .int i_4, .int i_5, .int i_6]))] [.ref a_0, .int i_0] (fun u : Unit => [(a_0, .inr (11, [.ref a_1, .ref a_2, .ref a_3, .ref a_4, .ref a_5, .ref a_6, .ref a_7, .ref a_8, .ref a_9, .ref a_10, .ref a_11])), (a_2, .inr (7, [.ref a_1, .ref a_12, .int i_1, .int i_2, .int i_3, .int i_4, .int i_5, .int i_6]))]) (fun (r : Int32) (u : Unit) => True) 0 0 := by
  refine mm_begin (lv := [(0, .ref a_0), (1, .int i_0)]) (by decide) (Nat.le_of_ble_eq_true rfl) rfl ?_
  intro p e s m below meth c A ls R args Q H locs hRe hQ hAe hx hb hr hlocks hml hown hnm hts hsz hA hS hP hK hD hZ hl
  have hRf : R.frames = 0 := by rw [hRe]
  have hRl : R.locals = 0 := by rw [hRe]
  have hRc : R.cells = 0 := by rw [hRe]
  have hRs : R.slots = 0 := by rw [hRe]
  refine lv_iload_n hx hb dX11_fault_0 rfl (lv_at hl 1 rfl) ?_
  refine lv_if_ne (tgt := 12) hx hb dX11_fault_1 (by decide) (fun c1 => ?_) (fun c1 => ?_)
  · refine lv_iload_n hx hb dX11_fault_12 rfl (lv_at hl 1 rfl) ?_
    refine lv_iconst (v := 1) hx hb dX11_fault_13 (by decide) ?_
    refine lv_icmp_ne (tgt := 27) hx hb dX11_fault_14 (by decide) (fun c2 => ?_) (fun c2 => ?_)
    · refine lv_iconst (v := (-1)) hx hb dX11_fault_27 (by decide) ?_
      subst hAe
      rw [hQ]
      exact W.iret (v := (-1)) hx hb hr (fun t ht hW => ⟨⟨(-1), (), rfl, trivial, by rw [ht]; exact hP, hK.warm hW, hD⟩, hS.F ht⟩) hS.2.2 dX11_fault_28
    · have q3 := mm_eqI (lo := 1) (hi := 1) c2 (mm_top i_0) mm_k1 (by decide)
      refine lv_aload_n hx hb dX11_fault_17 rfl (lv_at hl 0 rfl) ?_
      refine va_get (D := G) (ci := 11) (v := .ref a_2) (C := RX11) (T := TX11) (N := 11) hx hb hts (mm_i inlX11) hown hK.1 hP 0 rfl rfl 1 (by decide) (mm_h hts mm_w20) (fun _ h9 => h9) rfl dX11_fault_18 ?_
      refine va_get (D := G) (ci := 7) (v := .int i_2) (C := RX7) (T := TX7) (N := 8) hx hb hts (mm_i inlX7) hown hK.1 hP 1 rfl rfl 3 (by decide) (mm_h hts mm_w565) (fun _ h9 => h9) rfl dX11_fault_21 ?_
      refine lv_goto (tgt := 28) hx hb dX11_fault_24 (by decide) ?_
      subst hAe
      rw [hQ]
      exact W.iret (v := i_2) hx hb hr (fun t ht hW => ⟨⟨i_2, (), rfl, trivial, by rw [ht]; exact hP, hK.warm hW, hD⟩, hS.F ht⟩) hS.2.2 dX11_fault_28
  · have q4 := mm_eqI (lo := 0) (hi := 0) c1 (mm_top i_0) mm_k0 (by decide)
    refine lv_aload_n hx hb dX11_fault_4 rfl (lv_at hl 0 rfl) ?_
    refine va_get (D := G) (ci := 11) (v := .ref a_2) (C := RX11) (T := TX11) (N := 11) hx hb hts (mm_i inlX11) hown hK.1 hP 0 rfl rfl 1 (by decide) (mm_h hts mm_w20) (fun _ h9 => h9) rfl dX11_fault_5 ?_
    refine va_get (D := G) (ci := 7) (v := .int i_1) (C := RX7) (T := TX7) (N := 8) hx hb hts (mm_i inlX7) hown hK.1 hP 1 rfl rfl 2 (by decide) (mm_h hts mm_w564) (fun _ h9 => h9) rfl dX11_fault_8 ?_
    subst hAe
    rw [hQ]
    exact W.iret (v := i_1) hx hb hr (fun t ht hW => ⟨⟨i_1, (), rfl, trivial, by rw [ht]; exact hP, hK.warm hW, hD⟩, hS.F ht⟩) hS.2.2 dX11_fault_11

set_option maxHeartbeats 4000000 in
set_option maxRecDepth 100000 in
theorem K344_X11_isSense (l : Launch) (G : va_G) (cy : Nat → ClassId) (sz : Nat) (a_0 : Nat) (i_0 : Int32) (a_1 : Nat) (a_2 : Nat) (a_3 : Nat) (a_4 : Nat) (a_5 : Nat) (a_6 : Nat) (a_7 : Nat) (a_8 : Nat) (a_9 : Nat) (a_10 : Nat) (a_11 : Nat) (a_12 : Nat) (a_13 : Nat) (i_1 : Int32) (i_2 : Int32) (i_3 : Int32) (i_4 : Int32) (i_5 : Int32) (i_6 : Int32) (i_7 : Int32) (i_8 : Int32) (a_14 : Nat) (a_15 : Nat) (a_16 : Nat) (a_17 : Nat) (a_18 : Nat) (a_19 : Nat) (a_20 : Nat) (a_21 : Nat) (a_22 : Nat) (a_23 : Nat) (h0 : mm_rg i_5 0 9)  : mm_CI l yX11_isSense (mm_ws yX11_isSense cX11_isSense 2 (some .boolean)) ({ frames := 0, cells := 0, slots := 0, locals := 0 } : Room) G cy sz [(a_0, .inr (11, [.ref a_1, .ref a_2, .ref a_3, .ref a_4, .ref a_5, .ref a_6, .ref a_7, .ref a_8, .ref a_9, .ref a_10, .ref a_11])), (a_3, .inr (10, [.ref a_12, .ref a_13])), (a_12, .inr (0, [.int i_1, .int i_2, .int i_3, .int i_4, .int i_5, .int i_6, .int i_7, .int i_8, .ref a_14, .ref a_15, .ref a_16, .ref a_17, .ref a_18, .ref a_19, .ref a_20, .ref a_21, .ref a_22, .ref a_23]))] [.ref a_0, .int i_0] (fun u : Unit => [(a_0, .inr (11, [.ref a_1, .ref a_2, .ref a_3, .ref a_4, .ref a_5, .ref a_6, .ref a_7, .ref a_8, .ref a_9, .ref a_10, .ref a_11])), (a_3, .inr (10, [.ref a_12, .ref a_13])), (a_12, .inr (0, [.int i_1, .int i_2, .int i_3, .int i_4, .int i_5, .int i_6, .int i_7, .int i_8, .ref a_14, .ref a_15, .ref a_16, .ref a_17, .ref a_18, .ref a_19, .ref a_20, .ref a_21, .ref a_22, .ref a_23]))]) (fun (r : Int32) (u : Unit) => ((0 = r ∧ mm_rg i_0 (-2147483648) 2147483647) ∨ (1 = r ∧ mm_rg i_0 0 8))) 0 0 := by
  refine mm_begin (lv := [(0, .ref a_0), (1, .int i_0)]) (by decide) (Nat.le_of_ble_eq_true rfl) rfl ?_
  intro p e s m below meth c A ls R args Q H locs hRe hQ hAe hx hb hr hlocks hml hown hnm hts hsz hA hS hP hK hD hZ hl
  have hRf : R.frames = 0 := by rw [hRe]
  have hRl : R.locals = 0 := by rw [hRe]
  have hRc : R.cells = 0 := by rw [hRe]
  have hRs : R.slots = 0 := by rw [hRe]
  refine lv_iload_n hx hb dX11_isSense_0 rfl (lv_at hl 1 rfl) ?_
  refine lv_if_lt (tgt := 22) hx hb dX11_isSense_1 (by decide) (fun c1 => ?_) (fun c1 => ?_)
  · have q2 := mm_ltL (h := (-1)) (mm_lt c1) (mm_top i_0) mm_k0 (by decide)
    refine lv_iconst (v := 0) hx hb dX11_isSense_22 (by decide) ?_
    subst hAe
    rw [hQ]
    exact W.zret (v := 0) hx hb hr rfl (fun t ht hW => ⟨⟨0, (), rfl, (Or.inl ⟨rfl, (mm_wk q2 (by decide))⟩), by rw [ht]; exact hP, hK.warm hW, hD⟩, hS.F ht⟩) hS.2.2 dX11_isSense_23
  · have q3 := mm_leR (mm_nlt c1) mm_k0 (mm_top i_0)
    refine lv_iload_n hx hb dX11_isSense_4 rfl (lv_at hl 1 rfl) ?_
    refine lv_aload_n hx hb dX11_isSense_5 rfl (lv_at hl 0 rfl) ?_
    refine va_get (D := G) (ci := 11) (v := .ref a_3) (C := RX11) (T := TX11) (N := 11) hx hb hts (mm_i inlX11) hown hK.1 hP 0 rfl rfl 2 (by decide) (mm_h hts mm_w24) (fun _ h9 => h9) rfl dX11_isSense_6 ?_
    refine va_get (D := G) (ci := 10) (v := .ref a_12) (C := RX10) (T := TX10) (N := 2) hx hb hts (mm_i inlX10) hown hK.1 hP 1 rfl rfl 0 (by decide) (mm_h hts mm_w199) (fun _ h9 => h9) rfl dX11_isSense_9 ?_
    refine va_get (D := G) (ci := 0) (v := .int i_5) (C := RX0) (T := TX0) (N := 18) hx hb hts (mm_i inlX0) hown hK.1 hP 2 rfl rfl 4 (by decide) (mm_h hts mm_w580) (fun _ h9 => h9) rfl dX11_isSense_12 ?_
    refine lv_icmp_ge (tgt := 22) hx hb dX11_isSense_15 (by decide) (fun c4 => ?_) (fun c4 => ?_)
    · refine lv_iconst (v := 0) hx hb dX11_isSense_22 (by decide) ?_
      subst hAe
      rw [hQ]
      exact W.zret (v := 0) hx hb hr rfl (fun t ht hW => ⟨⟨0, (), rfl, (Or.inl ⟨rfl, (mm_wk q3 (by decide))⟩), by rw [ht]; exact hP, hK.warm hW, hD⟩, hS.F ht⟩) hS.2.2 dX11_isSense_23
    · have q5 := mm_ltL (h := 8) (mm_nle c4) q3 h0 (by decide)
      have q6 := mm_ltR (lo := 1) (mm_nle c4) q3 h0 (by decide)
      refine lv_iconst (v := 1) hx hb dX11_isSense_18 (by decide) ?_
      refine lv_goto (tgt := 23) hx hb dX11_isSense_19 (by decide) ?_
      subst hAe
      rw [hQ]
      exact W.zret (v := 1) hx hb hr rfl (fun t ht hW => ⟨⟨1, (), rfl, (Or.inr ⟨rfl, q5⟩), by rw [ht]; exact hP, hK.warm hW, hD⟩, hS.F ht⟩) hS.2.2 dX11_isSense_23

set_option maxHeartbeats 4000000 in
set_option maxRecDepth 100000 in
theorem K345_X11_isPart (l : Launch) (G : va_G) (cy : Nat → ClassId) (sz : Nat) (i_0 : Int32)   : mm_CI l yX11_isPart (mm_ws yX11_isPart cX11_isPart 1 (some .boolean)) ({ frames := 0, cells := 0, slots := 0, locals := 0 } : Room) G cy sz [] [.int i_0] (fun u : Unit => []) (fun (r : Int32) (u : Unit) => ((0 = r) ∨ (1 = r ∧ mm_rg i_0 0 1))) 0 0 := by
  refine mm_begin (lv := [(0, .int i_0)]) (by decide) (Nat.le_of_ble_eq_true rfl) rfl ?_
  intro p e s m below meth c A ls R args Q H locs hRe hQ hAe hx hb hr hlocks hml hown hnm hts hsz hA hS hP hK hD hZ hl
  have hRf : R.frames = 0 := by rw [hRe]
  have hRl : R.locals = 0 := by rw [hRe]
  have hRc : R.cells = 0 := by rw [hRe]
  have hRs : R.slots = 0 := by rw [hRe]
  refine lv_iload_n hx hb dX11_isPart_0 rfl (lv_at hl 0 rfl) ?_
  refine lv_if_eq (tgt := 9) hx hb dX11_isPart_1 (by decide) (fun c1 => ?_) (fun c1 => ?_)
  · have q2 := mm_eqI (lo := 0) (hi := 0) c1 (mm_top i_0) mm_k0 (by decide)
    refine lv_iconst (v := 1) hx hb dX11_isPart_9 (by decide) ?_
    refine lv_goto (tgt := 14) hx hb dX11_isPart_10 (by decide) ?_
    subst hAe
    rw [hQ]
    exact W.zret (v := 1) hx hb hr rfl (fun t ht hW => ⟨⟨1, (), rfl, (Or.inr ⟨rfl, (mm_wk q2 (by decide))⟩), by rw [ht]; exact hP, hK.warm hW, hD⟩, hS.F ht⟩) hS.2.2 dX11_isPart_14
  · refine lv_iload_n hx hb dX11_isPart_4 rfl (lv_at hl 0 rfl) ?_
    refine lv_iconst (v := 1) hx hb dX11_isPart_5 (by decide) ?_
    refine lv_icmp_ne (tgt := 13) hx hb dX11_isPart_6 (by decide) (fun c3 => ?_) (fun c3 => ?_)
    · refine lv_iconst (v := 0) hx hb dX11_isPart_13 (by decide) ?_
      subst hAe
      rw [hQ]
      exact W.zret (v := 0) hx hb hr rfl (fun t ht hW => ⟨⟨0, (), rfl, (Or.inl rfl), by rw [ht]; exact hP, hK.warm hW, hD⟩, hS.F ht⟩) hS.2.2 dX11_isPart_14
    · have q4 := mm_eqI (lo := 1) (hi := 1) c3 (mm_top i_0) mm_k1 (by decide)
      refine lv_iconst (v := 1) hx hb dX11_isPart_9 (by decide) ?_
      refine lv_goto (tgt := 14) hx hb dX11_isPart_10 (by decide) ?_
      subst hAe
      rw [hQ]
      exact W.zret (v := 1) hx hb hr rfl (fun t ht hW => ⟨⟨1, (), rfl, (Or.inr ⟨rfl, (mm_wk q4 (by decide))⟩), by rw [ht]; exact hP, hK.warm hW, hD⟩, hS.F ht⟩) hS.2.2 dX11_isPart_14

set_option maxHeartbeats 4000000 in
set_option maxRecDepth 100000 in
theorem K346_X11_sense (l : Launch) (G : va_G) (cy : Nat → ClassId) (sz : Nat) (a_0 : Nat) (i_0 : Int32) (i_1 : Int32) (a_1 : Nat) (a_2 : Nat) (a_3 : Nat) (a_4 : Nat) (a_5 : Nat) (a_6 : Nat) (a_7 : Nat) (a_8 : Nat) (a_9 : Nat) (a_10 : Nat) (a_11 : Nat) (a_12 : Nat) (a_13 : Nat) (i_2 : Int32) (i_3 : Int32) (i_4 : Int32) (i_5 : Int32) (i_6 : Int32) (i_7 : Int32) (i_8 : Int32) (i_9 : Int32) (a_14 : Nat) (a_15 : Nat) (a_16 : Nat) (a_17 : Nat) (a_18 : Nat) (a_19 : Nat) (a_20 : Nat) (a_21 : Nat) (a_22 : Nat) (a_23 : Nat) (f_0 : Nat → Int32) (f_1 : Nat → Int32) (h0 : mm_rg i_6 0 9) (h1 : mm_ar f_0 (-1) 4) (h2 : mm_ar f_1 0 99)  : mm_CI l yX11_sense (mm_ws yX11_sense cX11_sense 3 (some .int)) ({ frames := 1, cells := 0, slots := 0, locals := 21 } : Room) G cy sz [(a_0, .inr (11, [.ref a_1, .ref a_2, .ref a_3, .ref a_4, .ref a_5, .ref a_6, .ref a_7, .ref a_8, .ref a_9, .ref a_10, .ref a_11])), (a_3, .inr (10, [.ref a_12, .ref a_13])), (a_12, .inr (0, [.int i_2, .int i_3, .int i_4, .int i_5, .int i_6, .int i_7, .int i_8, .int i_9, .ref a_14, .ref a_15, .ref a_16, .ref a_17, .ref a_18, .ref a_19, .ref a_20, .ref a_21, .ref a_22, .ref a_23])), (a_14, .inl (cy 1, 9, .inl f_0)), (a_15, .inl (cy 1, 9, .inl f_1))] [.ref a_0, .int i_0, .int i_1] (fun u : Unit => [(a_0, .inr (11, [.ref a_1, .ref a_2, .ref a_3, .ref a_4, .ref a_5, .ref a_6, .ref a_7, .ref a_8, .ref a_9, .ref a_10, .ref a_11])), (a_3, .inr (10, [.ref a_12, .ref a_13])), (a_12, .inr (0, [.int i_2, .int i_3, .int i_4, .int i_5, .int i_6, .int i_7, .int i_8, .int i_9, .ref a_14, .ref a_15, .ref a_16, .ref a_17, .ref a_18, .ref a_19, .ref a_20, .ref a_21, .ref a_22, .ref a_23])), (a_14, .inl (cy 1, 9, .inl f_0)), (a_15, .inl (cy 1, 9, .inl f_1))]) (fun (r : Int32) (u : Unit) => mm_rg r (-2) 99) 0 0 := by
  refine mm_begin (lv := [(0, .ref a_0), (1, .int i_0), (2, .int i_1)]) (by decide) (Nat.le_of_ble_eq_true rfl) rfl ?_
  intro p e s m below meth c A ls R args Q H locs hRe hQ hAe hx hb hr hlocks hml hown hnm hts hsz hA hS hP hK hD hZ hl
  have hRf : R.frames = 1 := by rw [hRe]
  have hRl : R.locals = 21 := by rw [hRe]
  have hRc : R.cells = 0 := by rw [hRe]
  have hRs : R.slots = 0 := by rw [hRe]
  refine lv_aload_n hx hb dX11_sense_0 rfl (lv_at hl 0 rfl) ?_
  refine lv_iload_n hx hb dX11_sense_1 rfl (lv_at hl 1 rfl) ?_
  refine mm_finir (va_runV (As := [.int i_0]) (rest := []) ⟨hx, hb, hml, hown, hts⟩ (K344_X11_isSense l G cy H.size a_0 i_0 a_1 a_2 a_3 a_4 a_5 a_6 a_7 a_8 a_9 a_10 a_11 a_12 a_13 i_2 i_3 i_4 i_5 i_6 i_7 i_8 i_9 a_14 a_15 a_16 a_17 a_18 a_19 a_20 a_21 a_22 a_23 h0) (cwV 1 hts (mm_gV mm_w576 mm_w577 mm_w578 mm_w2 mm_w579) rfl rfl rfl hd_X11_isSense ⟨by rw [hRf]; exact Nat.le_of_ble_eq_true rfl, by rw [hRl]; exact Nat.le_of_ble_eq_true rfl⟩) (mm_preV hK hZ hS hA hP hD [0, 1, 2] rfl rfl 0 rfl rfl rfl) rfl rfl hl.1 rfl (lv_room (Nat.le_of_ble_eq_true rfl)) dX11_sense_2 ⟨by rw [hRc]; exact Nat.le_of_ble_eq_true rfl, by rw [hRs]; exact Nat.le_of_ble_eq_true rfl⟩) hP hD hS hA [0, 1, 2] rfl (fun _ => rfl) ?_
  clear hP hD hS
  clear H locs
  intro v1 _u H locs hw hP hD hS
  rcases hw with ⟨rfl, w2⟩ | ⟨rfl, w3⟩
  · refine lv_if_eq (tgt := 15) hx hb dX11_sense_5 (by decide) (fun c4 => ?_) (fun c4 => ?_)
    · refine lv_bipush (v := (-2)) hx hb dX11_sense_15 (by decide) ?_
      subst hAe
      rw [hQ]
      exact W.iret (v := (-2)) hx hb hr (fun t ht hW => ⟨⟨(-2), (), rfl, (mm_wk mm_km2 (by decide)), by rw [ht]; exact hP, hK.warm hW, hD⟩, hS.F ht⟩) hS.2.2 dX11_sense_17
    · have q5 := mm_neL (lo := 1) (mm_ne c4) mm_k0 mm_k0 (by decide) (by decide)
      exact mm_no q5 (by decide)
  · refine lv_if_eq (tgt := 15) hx hb dX11_sense_5 (by decide) (fun c6 => ?_) (fun c6 => ?_)
    · exact mm_eqN c6.symm mm_k0 mm_k1 (by decide)
    · refine lv_iload_n hx hb dX11_sense_8 rfl (lv_at hl 2 rfl) ?_
      refine mm_finir (va_runS (As := [.int i_1]) (rest := []) ⟨hx, hb, hml, hown, hts⟩ (K345_X11_isPart l G cy H.size i_1 ) (va_cwS 1 hts (mm_gS mm_w581 mm_w582 mm_w2 mm_w583) rfl rfl rfl hs_X11_isPart ⟨by rw [hRf]; exact Nat.le_of_ble_eq_true rfl, by rw [hRl]; exact Nat.le_of_ble_eq_true rfl⟩) (mm_preS hK hZ hS hA hP hD [] rfl rfl) rfl rfl hl.1 rfl (lv_room (Nat.le_of_ble_eq_true rfl)) dX11_sense_9 ⟨by rw [hRc]; exact Nat.le_of_ble_eq_true rfl, by rw [hRs]; exact Nat.le_of_ble_eq_true rfl⟩) hP hD hS hA [] rfl (fun _ => rfl) ?_
      clear hP hD hS
      clear H locs
      intro v7 _u H locs hw hP hD hS
      rcases hw with rfl | ⟨rfl, w8⟩
      · refine lv_if_ne (tgt := 18) hx hb dX11_sense_12 (by decide) (fun c9 => ?_) (fun c9 => ?_)
        · have q10 := mm_neL (lo := 1) (mm_ne c9) mm_k0 mm_k0 (by decide) (by decide)
          exact mm_no q10 (by decide)
        · refine lv_bipush (v := (-2)) hx hb dX11_sense_15 (by decide) ?_
          subst hAe
          rw [hQ]
          exact W.iret (v := (-2)) hx hb hr (fun t ht hW => ⟨⟨(-2), (), rfl, (mm_wk mm_km2 (by decide)), by rw [ht]; exact hP, hK.warm hW, hD⟩, hS.F ht⟩) hS.2.2 dX11_sense_17
      · refine lv_if_ne (tgt := 18) hx hb dX11_sense_12 (by decide) (fun c11 => ?_) (fun c11 => ?_)
        · refine lv_iload_n hx hb dX11_sense_18 rfl (lv_at hl 2 rfl) ?_
          refine lv_if_ne (tgt := 37) hx hb dX11_sense_19 (by decide) (fun c12 => ?_) (fun c12 => ?_)
          · have q13 := mm_neL (lo := 1) (mm_ne c12) w8 mm_k0 (by decide) (by decide)
            refine lv_aload_n hx hb dX11_sense_37 rfl (lv_at hl 0 rfl) ?_
            refine va_get (D := G) (ci := 11) (v := .ref a_3) (C := RX11) (T := TX11) (N := 11) hx hb hts (mm_i inlX11) hown hK.1 hP 0 rfl rfl 2 (by decide) (mm_h hts mm_w24) (fun _ h9 => h9) rfl dX11_sense_38 ?_
            refine va_get (D := G) (ci := 10) (v := .ref a_12) (C := RX10) (T := TX10) (N := 2) hx hb hts (mm_i inlX10) hown hK.1 hP 1 rfl rfl 0 (by decide) (mm_h hts mm_w199) (fun _ h9 => h9) rfl dX11_sense_41 ?_
            refine va_get (D := G) (ci := 0) (v := .ref a_15) (C := RX0) (T := TX0) (N := 18) hx hb hts (mm_i inlX0) hown hK.1 hP 2 rfl rfl 9 (by decide) (mm_h hts mm_w575) (fun _ h9 => h9) rfl dX11_sense_44 ?_
            refine lv_iload_n hx hb dX11_sense_47 rfl (lv_at hl 1 rfl) ?_
            refine va_iald hx hb hK.1 hP 4 1 rfl rfl (mm_in w3 (by decide)) dX11_sense_48 ?_
            refine lv_topi (fun v14 ev14 => ?_)
            have rv14 : mm_rg v14 0 99 := mm_eqv ev14 (h2 _)
            subst hAe
            rw [hQ]
            exact W.iret (v := v14) hx hb hr (fun t ht hW => ⟨⟨v14, (), rfl, (mm_wk rv14 (by decide)), by rw [ht]; exact hP, hK.warm hW, hD⟩, hS.F ht⟩) hS.2.2 dX11_sense_49
          · have q15 := mm_eqI (lo := 0) (hi := 0) c12 w8 mm_k0 (by decide)
            refine lv_aload_n hx hb dX11_sense_22 rfl (lv_at hl 0 rfl) ?_
            refine va_get (D := G) (ci := 11) (v := .ref a_3) (C := RX11) (T := TX11) (N := 11) hx hb hts (mm_i inlX11) hown hK.1 hP 0 rfl rfl 2 (by decide) (mm_h hts mm_w24) (fun _ h9 => h9) rfl dX11_sense_23 ?_
            refine va_get (D := G) (ci := 10) (v := .ref a_12) (C := RX10) (T := TX10) (N := 2) hx hb hts (mm_i inlX10) hown hK.1 hP 1 rfl rfl 0 (by decide) (mm_h hts mm_w199) (fun _ h9 => h9) rfl dX11_sense_26 ?_
            refine va_get (D := G) (ci := 0) (v := .ref a_14) (C := RX0) (T := TX0) (N := 18) hx hb hts (mm_i inlX0) hown hK.1 hP 2 rfl rfl 8 (by decide) (mm_h hts mm_w574) (fun _ h9 => h9) rfl dX11_sense_29 ?_
            refine lv_iload_n hx hb dX11_sense_32 rfl (lv_at hl 1 rfl) ?_
            refine va_iald hx hb hK.1 hP 3 1 rfl rfl (mm_in w3 (by decide)) dX11_sense_33 ?_
            refine lv_topi (fun v16 ev16 => ?_)
            have rv16 : mm_rg v16 (-1) 4 := mm_eqv ev16 (h1 _)
            refine lv_goto (tgt := 49) hx hb dX11_sense_34 (by decide) ?_
            subst hAe
            rw [hQ]
            exact W.iret (v := v16) hx hb hr (fun t ht hW => ⟨⟨v16, (), rfl, (mm_wk rv16 (by decide)), by rw [ht]; exact hP, hK.warm hW, hD⟩, hS.F ht⟩) hS.2.2 dX11_sense_49
        · exact mm_eqN c11.symm mm_k0 mm_k1 (by decide)

set_option maxHeartbeats 4000000 in
set_option maxRecDepth 100000 in
theorem K347_X11_isText (l : Launch) (G : va_G) (cy : Nat → ClassId) (sz : Nat) (a_0 : Nat) (i_0 : Int32) (a_1 : Nat) (a_2 : Nat) (a_3 : Nat) (a_4 : Nat) (a_5 : Nat) (a_6 : Nat) (a_7 : Nat) (a_8 : Nat) (a_9 : Nat) (a_10 : Nat) (a_11 : Nat) (a_12 : Nat) (a_13 : Nat) (i_1 : Int32) (i_2 : Int32) (i_3 : Int32) (i_4 : Int32) (i_5 : Int32) (i_6 : Int32) (i_7 : Int32) (i_8 : Int32) (a_14 : Nat) (a_15 : Nat) (a_16 : Nat) (a_17 : Nat) (a_18 : Nat) (a_19 : Nat) (a_20 : Nat) (a_21 : Nat) (a_22 : Nat) (a_23 : Nat) (h0 : mm_rg i_7 0 6)  : mm_CI l yX11_isText (mm_ws yX11_isText cX11_isText 2 (some .boolean)) ({ frames := 0, cells := 0, slots := 0, locals := 0 } : Room) G cy sz [(a_0, .inr (11, [.ref a_1, .ref a_2, .ref a_3, .ref a_4, .ref a_5, .ref a_6, .ref a_7, .ref a_8, .ref a_9, .ref a_10, .ref a_11])), (a_3, .inr (10, [.ref a_12, .ref a_13])), (a_12, .inr (0, [.int i_1, .int i_2, .int i_3, .int i_4, .int i_5, .int i_6, .int i_7, .int i_8, .ref a_14, .ref a_15, .ref a_16, .ref a_17, .ref a_18, .ref a_19, .ref a_20, .ref a_21, .ref a_22, .ref a_23]))] [.ref a_0, .int i_0] (fun u : Unit => [(a_0, .inr (11, [.ref a_1, .ref a_2, .ref a_3, .ref a_4, .ref a_5, .ref a_6, .ref a_7, .ref a_8, .ref a_9, .ref a_10, .ref a_11])), (a_3, .inr (10, [.ref a_12, .ref a_13])), (a_12, .inr (0, [.int i_1, .int i_2, .int i_3, .int i_4, .int i_5, .int i_6, .int i_7, .int i_8, .ref a_14, .ref a_15, .ref a_16, .ref a_17, .ref a_18, .ref a_19, .ref a_20, .ref a_21, .ref a_22, .ref a_23]))]) (fun (r : Int32) (u : Unit) => ((0 = r ∧ mm_rg i_0 (-2147483648) 2147483647) ∨ (1 = r ∧ mm_rg i_0 0 5))) 0 0 := by
  refine mm_begin (lv := [(0, .ref a_0), (1, .int i_0)]) (by decide) (Nat.le_of_ble_eq_true rfl) rfl ?_
  intro p e s m below meth c A ls R args Q H locs hRe hQ hAe hx hb hr hlocks hml hown hnm hts hsz hA hS hP hK hD hZ hl
  have hRf : R.frames = 0 := by rw [hRe]
  have hRl : R.locals = 0 := by rw [hRe]
  have hRc : R.cells = 0 := by rw [hRe]
  have hRs : R.slots = 0 := by rw [hRe]
  refine lv_iload_n hx hb dX11_isText_0 rfl (lv_at hl 1 rfl) ?_
  refine lv_if_lt (tgt := 22) hx hb dX11_isText_1 (by decide) (fun c1 => ?_) (fun c1 => ?_)
  · have q2 := mm_ltL (h := (-1)) (mm_lt c1) (mm_top i_0) mm_k0 (by decide)
    refine lv_iconst (v := 0) hx hb dX11_isText_22 (by decide) ?_
    subst hAe
    rw [hQ]
    exact W.zret (v := 0) hx hb hr rfl (fun t ht hW => ⟨⟨0, (), rfl, (Or.inl ⟨rfl, (mm_wk q2 (by decide))⟩), by rw [ht]; exact hP, hK.warm hW, hD⟩, hS.F ht⟩) hS.2.2 dX11_isText_23
  · have q3 := mm_leR (mm_nlt c1) mm_k0 (mm_top i_0)
    refine lv_iload_n hx hb dX11_isText_4 rfl (lv_at hl 1 rfl) ?_
    refine lv_aload_n hx hb dX11_isText_5 rfl (lv_at hl 0 rfl) ?_
    refine va_get (D := G) (ci := 11) (v := .ref a_3) (C := RX11) (T := TX11) (N := 11) hx hb hts (mm_i inlX11) hown hK.1 hP 0 rfl rfl 2 (by decide) (mm_h hts mm_w24) (fun _ h9 => h9) rfl dX11_isText_6 ?_
    refine va_get (D := G) (ci := 10) (v := .ref a_12) (C := RX10) (T := TX10) (N := 2) hx hb hts (mm_i inlX10) hown hK.1 hP 1 rfl rfl 0 (by decide) (mm_h hts mm_w199) (fun _ h9 => h9) rfl dX11_isText_9 ?_
    refine va_get (D := G) (ci := 0) (v := .int i_7) (C := RX0) (T := TX0) (N := 18) hx hb hts (mm_i inlX0) hown hK.1 hP 2 rfl rfl 6 (by decide) (mm_h hts mm_w604) (fun _ h9 => h9) rfl dX11_isText_12 ?_
    refine lv_icmp_ge (tgt := 22) hx hb dX11_isText_15 (by decide) (fun c4 => ?_) (fun c4 => ?_)
    · refine lv_iconst (v := 0) hx hb dX11_isText_22 (by decide) ?_
      subst hAe
      rw [hQ]
      exact W.zret (v := 0) hx hb hr rfl (fun t ht hW => ⟨⟨0, (), rfl, (Or.inl ⟨rfl, (mm_wk q3 (by decide))⟩), by rw [ht]; exact hP, hK.warm hW, hD⟩, hS.F ht⟩) hS.2.2 dX11_isText_23
    · have q5 := mm_ltL (h := 5) (mm_nle c4) q3 h0 (by decide)
      have q6 := mm_ltR (lo := 1) (mm_nle c4) q3 h0 (by decide)
      refine lv_iconst (v := 1) hx hb dX11_isText_18 (by decide) ?_
      refine lv_goto (tgt := 23) hx hb dX11_isText_19 (by decide) ?_
      subst hAe
      rw [hQ]
      exact W.zret (v := 1) hx hb hr rfl (fun t ht hW => ⟨⟨1, (), rfl, (Or.inr ⟨rfl, q5⟩), by rw [ht]; exact hP, hK.warm hW, hD⟩, hS.F ht⟩) hS.2.2 dX11_isText_23

set_option maxHeartbeats 4000000 in
set_option maxRecDepth 100000 in
theorem K348_X0_wordAt (l : Launch) (G : va_G) (cy : Nat → ClassId) (sz : Nat) (a_0 : Nat) (i_0 : Int32) (i_1 : Int32) (i_2 : Int32) (i_3 : Int32) (i_4 : Int32) (i_5 : Int32) (i_6 : Int32) (i_7 : Int32) (i_8 : Int32) (i_9 : Int32) (a_1 : Nat) (a_2 : Nat) (a_3 : Nat) (a_4 : Nat) (a_5 : Nat) (a_6 : Nat) (a_7 : Nat) (a_8 : Nat) (a_9 : Nat) (a_10 : Nat) (f_0 : Nat → Int32) (h0 : mm_rg i_0 0 5) (h1 : mm_rg i_1 0 7) (h2 : mm_ar f_0 0 9)  : mm_CI l yX0_wordAt (mm_ws yX0_wordAt cX0_wordAt 3 (some .int)) ({ frames := 0, cells := 0, slots := 0, locals := 0 } : Room) G cy sz [(a_0, .inr (0, [.int i_2, .int i_3, .int i_4, .int i_5, .int i_6, .int i_7, .int i_8, .int i_9, .ref a_1, .ref a_2, .ref a_3, .ref a_4, .ref a_5, .ref a_6, .ref a_7, .ref a_8, .ref a_9, .ref a_10])), (a_6, .inl (cy 1, 48, .inl f_0))] [.ref a_0, .int i_0, .int i_1] (fun u : Unit => [(a_0, .inr (0, [.int i_2, .int i_3, .int i_4, .int i_5, .int i_6, .int i_7, .int i_8, .int i_9, .ref a_1, .ref a_2, .ref a_3, .ref a_4, .ref a_5, .ref a_6, .ref a_7, .ref a_8, .ref a_9, .ref a_10])), (a_6, .inl (cy 1, 48, .inl f_0))]) (fun (r : Int32) (u : Unit) => mm_rg r 0 9) 0 0 := by
  refine mm_begin (lv := [(0, .ref a_0), (1, .int i_0), (2, .int i_1)]) (by decide) (Nat.le_of_ble_eq_true rfl) rfl ?_
  intro p e s m below meth c A ls R args Q H locs hRe hQ hAe hx hb hr hlocks hml hown hnm hts hsz hA hS hP hK hD hZ hl
  have hRf : R.frames = 0 := by rw [hRe]
  have hRl : R.locals = 0 := by rw [hRe]
  have hRc : R.cells = 0 := by rw [hRe]
  have hRs : R.slots = 0 := by rw [hRe]
  refine lv_aload_n hx hb dX0_wordAt_0 rfl (lv_at hl 0 rfl) ?_
  refine va_get (D := G) (ci := 0) (v := .ref a_6) (C := RX0) (T := TX0) (N := 18) hx hb hts (mm_i inlX0) hown hK.1 hP 0 rfl rfl 13 (by decide) (mm_h hts mm_w77) (fun _ h9 => h9) rfl dX0_wordAt_1 ?_
  refine lv_iload_n hx hb dX0_wordAt_4 rfl (lv_at hl 1 rfl) ?_
  refine lv_bipush (v := 8) hx hb dX0_wordAt_5 (by decide) ?_
  refine lv_imul hx hb dX0_wordAt_7 ?_
  refine lv_topi (fun v1 ev1 => ?_)
  have rv1 : mm_rg v1 0 40 := mm_mul ev1 h0 mm_k8 (by decide) (by decide)
  refine lv_iload_n hx hb dX0_wordAt_8 rfl (lv_at hl 2 rfl) ?_
  refine lv_iadd hx hb dX0_wordAt_9 ?_
  refine lv_topi (fun v2 ev2 => ?_)
  have rv2 : mm_rg v2 0 47 := mm_add ev2 rv1 h1 (by decide) (by decide)
  have tv2 := mm_addE ev2 rv1 h1 (by decide)
  refine va_iald hx hb hK.1 hP 1 1 rfl rfl (mm_in rv2 (by decide)) dX0_wordAt_10 ?_
  refine lv_topi (fun v3 ev3 => ?_)
  have rv3 : mm_rg v3 0 9 := mm_eqv ev3 (h2 _)
  subst hAe
  rw [hQ]
  exact W.iret (v := v3) hx hb hr (fun t ht hW => ⟨⟨v3, (), rfl, rv3, by rw [ht]; exact hP, hK.warm hW, hD⟩, hS.F ht⟩) hS.2.2 dX0_wordAt_11

set_option maxHeartbeats 4000000 in
set_option maxRecDepth 100000 in
theorem K349_X11_word (l : Launch) (G : va_G) (cy : Nat → ClassId) (sz : Nat) (a_0 : Nat) (i_0 : Int32) (i_1 : Int32) (a_1 : Nat) (a_2 : Nat) (a_3 : Nat) (a_4 : Nat) (a_5 : Nat) (a_6 : Nat) (a_7 : Nat) (a_8 : Nat) (a_9 : Nat) (a_10 : Nat) (a_11 : Nat) (a_12 : Nat) (a_13 : Nat) (i_2 : Int32) (i_3 : Int32) (i_4 : Int32) (i_5 : Int32) (i_6 : Int32) (i_7 : Int32) (i_8 : Int32) (i_9 : Int32) (a_14 : Nat) (a_15 : Nat) (a_16 : Nat) (a_17 : Nat) (a_18 : Nat) (a_19 : Nat) (a_20 : Nat) (a_21 : Nat) (a_22 : Nat) (a_23 : Nat) (f_0 : Nat → Int32) (f_1 : Nat → Int32) (h0 : mm_rg i_8 0 6) (h1 : mm_ar f_0 0 8) (h2 : mm_ar f_1 0 9)  : mm_CI l yX11_word (mm_ws yX11_word cX11_word 3 (some .int)) ({ frames := 1, cells := 0, slots := 0, locals := 22 } : Room) G cy sz [(a_0, .inr (11, [.ref a_1, .ref a_2, .ref a_3, .ref a_4, .ref a_5, .ref a_6, .ref a_7, .ref a_8, .ref a_9, .ref a_10, .ref a_11])), (a_3, .inr (10, [.ref a_12, .ref a_13])), (a_12, .inr (0, [.int i_2, .int i_3, .int i_4, .int i_5, .int i_6, .int i_7, .int i_8, .int i_9, .ref a_14, .ref a_15, .ref a_16, .ref a_17, .ref a_18, .ref a_19, .ref a_20, .ref a_21, .ref a_22, .ref a_23])), (a_18, .inl (cy 1, 6, .inl f_0)), (a_19, .inl (cy 1, 48, .inl f_1))] [.ref a_0, .int i_0, .int i_1] (fun u : Unit => [(a_0, .inr (11, [.ref a_1, .ref a_2, .ref a_3, .ref a_4, .ref a_5, .ref a_6, .ref a_7, .ref a_8, .ref a_9, .ref a_10, .ref a_11])), (a_3, .inr (10, [.ref a_12, .ref a_13])), (a_12, .inr (0, [.int i_2, .int i_3, .int i_4, .int i_5, .int i_6, .int i_7, .int i_8, .int i_9, .ref a_14, .ref a_15, .ref a_16, .ref a_17, .ref a_18, .ref a_19, .ref a_20, .ref a_21, .ref a_22, .ref a_23])), (a_18, .inl (cy 1, 6, .inl f_0)), (a_19, .inl (cy 1, 48, .inl f_1))]) (fun (r : Int32) (u : Unit) => mm_rg r (-2) 9) 0 0 := by
  refine mm_begin (lv := [(0, .ref a_0), (1, .int i_0), (2, .int i_1)]) (by decide) (Nat.le_of_ble_eq_true rfl) rfl ?_
  intro p e s m below meth c A ls R args Q H locs hRe hQ hAe hx hb hr hlocks hml hown hnm hts hsz hA hS hP hK hD hZ hl
  have hRf : R.frames = 1 := by rw [hRe]
  have hRl : R.locals = 22 := by rw [hRe]
  have hRc : R.cells = 0 := by rw [hRe]
  have hRs : R.slots = 0 := by rw [hRe]
  refine lv_aload_n hx hb dX11_word_0 rfl (lv_at hl 0 rfl) ?_
  refine lv_iload_n hx hb dX11_word_1 rfl (lv_at hl 1 rfl) ?_
  refine mm_finir (va_runV (As := [.int i_0]) (rest := []) ⟨hx, hb, hml, hown, hts⟩ (K347_X11_isText l G cy H.size a_0 i_0 a_1 a_2 a_3 a_4 a_5 a_6 a_7 a_8 a_9 a_10 a_11 a_12 a_13 i_2 i_3 i_4 i_5 i_6 i_7 i_8 i_9 a_14 a_15 a_16 a_17 a_18 a_19 a_20 a_21 a_22 a_23 h0) (cwV 1 hts (mm_gV mm_w600 mm_w601 mm_w602 mm_w2 mm_w603) rfl rfl rfl hd_X11_isText ⟨by rw [hRf]; exact Nat.le_of_ble_eq_true rfl, by rw [hRl]; exact Nat.le_of_ble_eq_true rfl⟩) (mm_preV hK hZ hS hA hP hD [0, 1, 2] rfl rfl 0 rfl rfl rfl) rfl rfl hl.1 rfl (lv_room (Nat.le_of_ble_eq_true rfl)) dX11_word_2 ⟨by rw [hRc]; exact Nat.le_of_ble_eq_true rfl, by rw [hRs]; exact Nat.le_of_ble_eq_true rfl⟩) hP hD hS hA [0, 1, 2] rfl (fun _ => rfl) ?_
  clear hP hD hS
  clear H locs
  intro v1 _u H locs hw hP hD hS
  rcases hw with ⟨rfl, w2⟩ | ⟨rfl, w3⟩
  · refine lv_if_ne (tgt := 11) hx hb dX11_word_5 (by decide) (fun c4 => ?_) (fun c4 => ?_)
    · have q5 := mm_neL (lo := 1) (mm_ne c4) mm_k0 mm_k0 (by decide) (by decide)
      exact mm_no q5 (by decide)
    · refine lv_bipush (v := (-2)) hx hb dX11_word_8 (by decide) ?_
      subst hAe
      rw [hQ]
      exact W.iret (v := (-2)) hx hb hr (fun t ht hW => ⟨⟨(-2), (), rfl, (mm_wk mm_km2 (by decide)), by rw [ht]; exact hP, hK.warm hW, hD⟩, hS.F ht⟩) hS.2.2 dX11_word_10
  · refine lv_if_ne (tgt := 11) hx hb dX11_word_5 (by decide) (fun c6 => ?_) (fun c6 => ?_)
    · refine lv_iload_n hx hb dX11_word_11 rfl (lv_at hl 2 rfl) ?_
      refine lv_if_lt (tgt := 31) hx hb dX11_word_12 (by decide) (fun c7 => ?_) (fun c7 => ?_)
      · have q8 := mm_ltL (h := (-1)) (mm_lt c7) (mm_top i_1) mm_k0 (by decide)
        refine lv_iconst (v := (-1)) hx hb dX11_word_31 (by decide) ?_
        subst hAe
        rw [hQ]
        exact W.iret (v := (-1)) hx hb hr (fun t ht hW => ⟨⟨(-1), (), rfl, (mm_wk mm_km1 (by decide)), by rw [ht]; exact hP, hK.warm hW, hD⟩, hS.F ht⟩) hS.2.2 dX11_word_32
      · have q9 := mm_leR (mm_nlt c7) mm_k0 (mm_top i_1)
        refine lv_iload_n hx hb dX11_word_15 rfl (lv_at hl 2 rfl) ?_
        refine lv_aload_n hx hb dX11_word_16 rfl (lv_at hl 0 rfl) ?_
        refine va_get (D := G) (ci := 11) (v := .ref a_3) (C := RX11) (T := TX11) (N := 11) hx hb hts (mm_i inlX11) hown hK.1 hP 0 rfl rfl 2 (by decide) (mm_h hts mm_w24) (fun _ h9 => h9) rfl dX11_word_17 ?_
        refine va_get (D := G) (ci := 10) (v := .ref a_12) (C := RX10) (T := TX10) (N := 2) hx hb hts (mm_i inlX10) hown hK.1 hP 1 rfl rfl 0 (by decide) (mm_h hts mm_w199) (fun _ h9 => h9) rfl dX11_word_20 ?_
        refine va_get (D := G) (ci := 0) (v := .ref a_18) (C := RX0) (T := TX0) (N := 18) hx hb hts (mm_i inlX0) hown hK.1 hP 2 rfl rfl 12 (by decide) (mm_h hts mm_w599) (fun _ h9 => h9) rfl dX11_word_23 ?_
        refine lv_iload_n hx hb dX11_word_26 rfl (lv_at hl 1 rfl) ?_
        refine va_iald hx hb hK.1 hP 3 1 rfl rfl (mm_in w3 (by decide)) dX11_word_27 ?_
        refine lv_topi (fun v10 ev10 => ?_)
        have rv10 : mm_rg v10 0 8 := mm_eqv ev10 (h1 _)
        refine lv_icmp_lt (tgt := 33) hx hb dX11_word_28 (by decide) (fun c11 => ?_) (fun c11 => ?_)
        · have q12 := mm_ltL (h := 7) (mm_lt c11) q9 rv10 (by decide)
          have q13 := mm_ltR (lo := 1) (mm_lt c11) q9 rv10 (by decide)
          refine lv_aload_n hx hb dX11_word_33 rfl (lv_at hl 0 rfl) ?_
          refine va_get (D := G) (ci := 11) (v := .ref a_3) (C := RX11) (T := TX11) (N := 11) hx hb hts (mm_i inlX11) hown hK.1 hP 0 rfl rfl 2 (by decide) (mm_h hts mm_w24) (fun _ h9 => h9) rfl dX11_word_34 ?_
          refine va_get (D := G) (ci := 10) (v := .ref a_12) (C := RX10) (T := TX10) (N := 2) hx hb hts (mm_i inlX10) hown hK.1 hP 1 rfl rfl 0 (by decide) (mm_h hts mm_w199) (fun _ h9 => h9) rfl dX11_word_37 ?_
          refine lv_iload_n hx hb dX11_word_40 rfl (lv_at hl 1 rfl) ?_
          refine lv_iload_n hx hb dX11_word_41 rfl (lv_at hl 2 rfl) ?_
          refine mm_finir (va_runV (As := [.int i_0, .int i_1]) (rest := []) ⟨hx, hb, hml, hown, hts⟩ (K348_X0_wordAt l G cy H.size a_12 i_0 i_1 i_2 i_3 i_4 i_5 i_6 i_7 i_8 i_9 a_14 a_15 a_16 a_17 a_18 a_19 a_20 a_21 a_22 a_23 f_1 w3 q12 h2) (cwV 2 hts (mm_gV mm_w605 mm_w606 mm_w607 mm_w28 mm_w608) rfl rfl rfl hd_X0_wordAt ⟨by rw [hRf]; exact Nat.le_of_ble_eq_true rfl, by rw [hRl]; exact Nat.le_of_ble_eq_true rfl⟩) (mm_preV hK hZ hS hA hP hD [2, 4] rfl rfl 2 rfl rfl rfl) rfl rfl hl.1 rfl (lv_room (Nat.le_of_ble_eq_true rfl)) dX11_word_42 ⟨by rw [hRc]; exact Nat.le_of_ble_eq_true rfl, by rw [hRs]; exact Nat.le_of_ble_eq_true rfl⟩) hP hD hS hA [2, 4] rfl (fun _ => rfl) ?_
          clear hP hD hS
          clear H locs
          intro v14 _u H locs hw hP hD hS
          have w15 := hw
          subst hAe
          rw [hQ]
          exact W.iret (v := v14) hx hb hr (fun t ht hW => ⟨⟨v14, (), rfl, (mm_wk w15 (by decide)), by rw [ht]; exact hP, hK.warm hW, hD⟩, hS.F ht⟩) hS.2.2 dX11_word_45
        · refine lv_iconst (v := (-1)) hx hb dX11_word_31 (by decide) ?_
          subst hAe
          rw [hQ]
          exact W.iret (v := (-1)) hx hb hr (fun t ht hW => ⟨⟨(-1), (), rfl, (mm_wk mm_km1 (by decide)), by rw [ht]; exact hP, hK.warm hW, hD⟩, hS.F ht⟩) hS.2.2 dX11_word_32
    · exact mm_eqN c6.symm mm_k0 mm_k1 (by decide)

set_option maxHeartbeats 4000000 in
set_option maxRecDepth 100000 in
theorem K350_X11_isLand (l : Launch) (G : va_G) (cy : Nat → ClassId) (sz : Nat) (a_0 : Nat) (i_0 : Int32) (a_1 : Nat) (a_2 : Nat) (a_3 : Nat) (a_4 : Nat) (a_5 : Nat) (a_6 : Nat) (a_7 : Nat) (a_8 : Nat) (a_9 : Nat) (a_10 : Nat) (a_11 : Nat) (a_12 : Nat) (a_13 : Nat) (i_1 : Int32) (i_2 : Int32) (i_3 : Int32) (i_4 : Int32) (i_5 : Int32) (i_6 : Int32) (i_7 : Int32) (i_8 : Int32) (a_14 : Nat) (a_15 : Nat) (a_16 : Nat) (a_17 : Nat) (a_18 : Nat) (a_19 : Nat) (a_20 : Nat) (a_21 : Nat) (a_22 : Nat) (a_23 : Nat) (h0 : mm_rg i_6 0 3)  : mm_CI l yX11_isLand (mm_ws yX11_isLand cX11_isLand 2 (some .boolean)) ({ frames := 0, cells := 0, slots := 0, locals := 0 } : Room) G cy sz [(a_0, .inr (11, [.ref a_1, .ref a_2, .ref a_3, .ref a_4, .ref a_5, .ref a_6, .ref a_7, .ref a_8, .ref a_9, .ref a_10, .ref a_11])), (a_3, .inr (10, [.ref a_12, .ref a_13])), (a_12, .inr (0, [.int i_1, .int i_2, .int i_3, .int i_4, .int i_5, .int i_6, .int i_7, .int i_8, .ref a_14, .ref a_15, .ref a_16, .ref a_17, .ref a_18, .ref a_19, .ref a_20, .ref a_21, .ref a_22, .ref a_23]))] [.ref a_0, .int i_0] (fun u : Unit => [(a_0, .inr (11, [.ref a_1, .ref a_2, .ref a_3, .ref a_4, .ref a_5, .ref a_6, .ref a_7, .ref a_8, .ref a_9, .ref a_10, .ref a_11])), (a_3, .inr (10, [.ref a_12, .ref a_13])), (a_12, .inr (0, [.int i_1, .int i_2, .int i_3, .int i_4, .int i_5, .int i_6, .int i_7, .int i_8, .ref a_14, .ref a_15, .ref a_16, .ref a_17, .ref a_18, .ref a_19, .ref a_20, .ref a_21, .ref a_22, .ref a_23]))]) (fun (r : Int32) (u : Unit) => ((0 = r ∧ mm_rg i_0 (-2147483648) 2147483647) ∨ (1 = r ∧ mm_rg i_0 0 2))) 0 0 := by
  refine mm_begin (lv := [(0, .ref a_0), (1, .int i_0)]) (by decide) (Nat.le_of_ble_eq_true rfl) rfl ?_
  intro p e s m below meth c A ls R args Q H locs hRe hQ hAe hx hb hr hlocks hml hown hnm hts hsz hA hS hP hK hD hZ hl
  have hRf : R.frames = 0 := by rw [hRe]
  have hRl : R.locals = 0 := by rw [hRe]
  have hRc : R.cells = 0 := by rw [hRe]
  have hRs : R.slots = 0 := by rw [hRe]
  refine lv_iload_n hx hb dX11_isLand_0 rfl (lv_at hl 1 rfl) ?_
  refine lv_if_lt (tgt := 22) hx hb dX11_isLand_1 (by decide) (fun c1 => ?_) (fun c1 => ?_)
  · have q2 := mm_ltL (h := (-1)) (mm_lt c1) (mm_top i_0) mm_k0 (by decide)
    refine lv_iconst (v := 0) hx hb dX11_isLand_22 (by decide) ?_
    subst hAe
    rw [hQ]
    exact W.zret (v := 0) hx hb hr rfl (fun t ht hW => ⟨⟨0, (), rfl, (Or.inl ⟨rfl, (mm_wk q2 (by decide))⟩), by rw [ht]; exact hP, hK.warm hW, hD⟩, hS.F ht⟩) hS.2.2 dX11_isLand_23
  · have q3 := mm_leR (mm_nlt c1) mm_k0 (mm_top i_0)
    refine lv_iload_n hx hb dX11_isLand_4 rfl (lv_at hl 1 rfl) ?_
    refine lv_aload_n hx hb dX11_isLand_5 rfl (lv_at hl 0 rfl) ?_
    refine va_get (D := G) (ci := 11) (v := .ref a_3) (C := RX11) (T := TX11) (N := 11) hx hb hts (mm_i inlX11) hown hK.1 hP 0 rfl rfl 2 (by decide) (mm_h hts mm_w24) (fun _ h9 => h9) rfl dX11_isLand_6 ?_
    refine va_get (D := G) (ci := 10) (v := .ref a_12) (C := RX10) (T := TX10) (N := 2) hx hb hts (mm_i inlX10) hown hK.1 hP 1 rfl rfl 0 (by decide) (mm_h hts mm_w199) (fun _ h9 => h9) rfl dX11_isLand_9 ?_
    refine va_get (D := G) (ci := 0) (v := .int i_6) (C := RX0) (T := TX0) (N := 18) hx hb hts (mm_i inlX0) hown hK.1 hP 2 rfl rfl 5 (by decide) (mm_h hts mm_w630) (fun _ h9 => h9) rfl dX11_isLand_12 ?_
    refine lv_icmp_ge (tgt := 22) hx hb dX11_isLand_15 (by decide) (fun c4 => ?_) (fun c4 => ?_)
    · refine lv_iconst (v := 0) hx hb dX11_isLand_22 (by decide) ?_
      subst hAe
      rw [hQ]
      exact W.zret (v := 0) hx hb hr rfl (fun t ht hW => ⟨⟨0, (), rfl, (Or.inl ⟨rfl, (mm_wk q3 (by decide))⟩), by rw [ht]; exact hP, hK.warm hW, hD⟩, hS.F ht⟩) hS.2.2 dX11_isLand_23
    · have q5 := mm_ltL (h := 2) (mm_nle c4) q3 h0 (by decide)
      have q6 := mm_ltR (lo := 1) (mm_nle c4) q3 h0 (by decide)
      refine lv_iconst (v := 1) hx hb dX11_isLand_18 (by decide) ?_
      refine lv_goto (tgt := 23) hx hb dX11_isLand_19 (by decide) ?_
      subst hAe
      rw [hQ]
      exact W.zret (v := 1) hx hb hr rfl (fun t ht hW => ⟨⟨1, (), rfl, (Or.inr ⟨rfl, q5⟩), by rw [ht]; exact hP, hK.warm hW, hD⟩, hS.F ht⟩) hS.2.2 dX11_isLand_23

set_option maxHeartbeats 4000000 in
set_option maxRecDepth 100000 in
theorem K351_X11_isWord (l : Launch) (G : va_G) (cy : Nat → ClassId) (sz : Nat) (a_0 : Nat) (i_0 : Int32) (a_1 : Nat) (a_2 : Nat) (a_3 : Nat) (a_4 : Nat) (a_5 : Nat) (a_6 : Nat) (a_7 : Nat) (a_8 : Nat) (a_9 : Nat) (a_10 : Nat) (a_11 : Nat) (a_12 : Nat) (a_13 : Nat) (i_1 : Int32) (i_2 : Int32) (i_3 : Int32) (i_4 : Int32) (i_5 : Int32) (i_6 : Int32) (i_7 : Int32) (i_8 : Int32) (a_14 : Nat) (a_15 : Nat) (a_16 : Nat) (a_17 : Nat) (a_18 : Nat) (a_19 : Nat) (a_20 : Nat) (a_21 : Nat) (a_22 : Nat) (a_23 : Nat) (h0 : mm_rg i_5 0 9)  : mm_CI l yX11_isWord (mm_ws yX11_isWord cX11_isWord 2 (some .boolean)) ({ frames := 1, cells := 0, slots := 0, locals := 20 } : Room) G cy sz [(a_0, .inr (11, [.ref a_1, .ref a_2, .ref a_3, .ref a_4, .ref a_5, .ref a_6, .ref a_7, .ref a_8, .ref a_9, .ref a_10, .ref a_11])), (a_3, .inr (10, [.ref a_12, .ref a_13])), (a_12, .inr (0, [.int i_1, .int i_2, .int i_3, .int i_4, .int i_5, .int i_6, .int i_7, .int i_8, .ref a_14, .ref a_15, .ref a_16, .ref a_17, .ref a_18, .ref a_19, .ref a_20, .ref a_21, .ref a_22, .ref a_23]))] [.ref a_0, .int i_0] (fun u : Unit => [(a_0, .inr (11, [.ref a_1, .ref a_2, .ref a_3, .ref a_4, .ref a_5, .ref a_6, .ref a_7, .ref a_8, .ref a_9, .ref a_10, .ref a_11])), (a_3, .inr (10, [.ref a_12, .ref a_13])), (a_12, .inr (0, [.int i_1, .int i_2, .int i_3, .int i_4, .int i_5, .int i_6, .int i_7, .int i_8, .ref a_14, .ref a_15, .ref a_16, .ref a_17, .ref a_18, .ref a_19, .ref a_20, .ref a_21, .ref a_22, .ref a_23]))]) (fun (r : Int32) (u : Unit) => ((0 = r ∧ mm_rg i_0 (-2147483648) 2147483647) ∨ (1 = r ∧ mm_rg i_0 0 9))) 0 0 := by
  refine mm_begin (lv := [(0, .ref a_0), (1, .int i_0)]) (by decide) (Nat.le_of_ble_eq_true rfl) rfl ?_
  intro p e s m below meth c A ls R args Q H locs hRe hQ hAe hx hb hr hlocks hml hown hnm hts hsz hA hS hP hK hD hZ hl
  have hRf : R.frames = 1 := by rw [hRe]
  have hRl : R.locals = 20 := by rw [hRe]
  have hRc : R.cells = 0 := by rw [hRe]
  have hRs : R.slots = 0 := by rw [hRe]
  refine lv_iload_n hx hb dX11_isWord_0 rfl (lv_at hl 1 rfl) ?_
  refine lv_if_lt (tgt := 22) hx hb dX11_isWord_1 (by decide) (fun c1 => ?_) (fun c1 => ?_)
  · have q2 := mm_ltL (h := (-1)) (mm_lt c1) (mm_top i_0) mm_k0 (by decide)
    refine lv_iconst (v := 0) hx hb dX11_isWord_22 (by decide) ?_
    subst hAe
    rw [hQ]
    exact W.zret (v := 0) hx hb hr rfl (fun t ht hW => ⟨⟨0, (), rfl, (Or.inl ⟨rfl, (mm_wk q2 (by decide))⟩), by rw [ht]; exact hP, hK.warm hW, hD⟩, hS.F ht⟩) hS.2.2 dX11_isWord_23
  · have q3 := mm_leR (mm_nlt c1) mm_k0 (mm_top i_0)
    refine lv_iload_n hx hb dX11_isWord_4 rfl (lv_at hl 1 rfl) ?_
    refine lv_aload_n hx hb dX11_isWord_5 rfl (lv_at hl 0 rfl) ?_
    refine va_get (D := G) (ci := 11) (v := .ref a_3) (C := RX11) (T := TX11) (N := 11) hx hb hts (mm_i inlX11) hown hK.1 hP 0 rfl rfl 2 (by decide) (mm_h hts mm_w24) (fun _ h9 => h9) rfl dX11_isWord_6 ?_
    refine va_get (D := G) (ci := 10) (v := .ref a_12) (C := RX10) (T := TX10) (N := 2) hx hb hts (mm_i inlX10) hown hK.1 hP 1 rfl rfl 0 (by decide) (mm_h hts mm_w199) (fun _ h9 => h9) rfl dX11_isWord_9 ?_
    refine mm_finir (va_runV (As := []) (rest := [.int i_0]) ⟨hx, hb, hml, hown, hts⟩ (K107_X0_wordCount l G cy H.size a_12 i_1 i_2 i_3 i_4 i_5 i_6 i_7 i_8 a_14 a_15 a_16 a_17 a_18 a_19 a_20 a_21 a_22 a_23 h0) (cwV 0 hts (mm_gV mm_w635 mm_w349 mm_w350 mm_w28 mm_w351) rfl rfl rfl hd_X0_wordCount ⟨by rw [hRf]; exact Nat.le_of_ble_eq_true rfl, by rw [hRl]; exact Nat.le_of_ble_eq_true rfl⟩) (mm_preV hK hZ hS hA hP hD [2] rfl rfl 2 rfl rfl rfl) rfl rfl hl.1 rfl (lv_room (Nat.le_of_ble_eq_true rfl)) dX11_isWord_12 ⟨by rw [hRc]; exact Nat.le_of_ble_eq_true rfl, by rw [hRs]; exact Nat.le_of_ble_eq_true rfl⟩) hP hD hS hA [2] rfl (fun _ => rfl) ?_
    clear hP hD hS
    clear H locs
    intro v4 _u H locs hw hP hD hS
    have w5 := hw
    refine lv_icmp_ge (tgt := 22) hx hb dX11_isWord_15 (by decide) (fun c6 => ?_) (fun c6 => ?_)
    · have q7 := mm_leR (mm_le c6) w5 q3
      refine lv_iconst (v := 0) hx hb dX11_isWord_22 (by decide) ?_
      subst hAe
      rw [hQ]
      exact W.zret (v := 0) hx hb hr rfl (fun t ht hW => ⟨⟨0, (), rfl, (Or.inl ⟨rfl, (mm_wk q7 (by decide))⟩), by rw [ht]; exact hP, hK.warm hW, hD⟩, hS.F ht⟩) hS.2.2 dX11_isWord_23
    · have q8 := mm_ltL (h := 9) (mm_nle c6) q3 w5 (by decide)
      refine lv_iconst (v := 1) hx hb dX11_isWord_18 (by decide) ?_
      refine lv_goto (tgt := 23) hx hb dX11_isWord_19 (by decide) ?_
      subst hAe
      rw [hQ]
      exact W.zret (v := 1) hx hb hr rfl (fun t ht hW => ⟨⟨1, (), rfl, (Or.inr ⟨rfl, q8⟩), by rw [ht]; exact hP, hK.warm hW, hD⟩, hS.F ht⟩) hS.2.2 dX11_isWord_23

set_option maxHeartbeats 4000000 in
set_option maxRecDepth 100000 in
theorem K352_X11_rule (l : Launch) (G : va_G) (cy : Nat → ClassId) (sz : Nat) (a_0 : Nat) (i_0 : Int32) (i_1 : Int32) (i_2 : Int32) (a_1 : Nat) (a_2 : Nat) (a_3 : Nat) (a_4 : Nat) (a_5 : Nat) (a_6 : Nat) (a_7 : Nat) (a_8 : Nat) (a_9 : Nat) (a_10 : Nat) (a_11 : Nat) (a_12 : Nat) (a_13 : Nat) (i_3 : Int32) (i_4 : Int32) (i_5 : Int32) (i_6 : Int32) (i_7 : Int32) (i_8 : Int32) (i_9 : Int32) (i_10 : Int32) (a_14 : Nat) (a_15 : Nat) (a_16 : Nat) (a_17 : Nat) (a_18 : Nat) (a_19 : Nat) (a_20 : Nat) (a_21 : Nat) (a_22 : Nat) (a_23 : Nat) (f_0 : Nat → Int32) (f_1 : Nat → Int32) (h0 : mm_rg i_7 0 9) (h1 : mm_rg i_8 0 3) (h2 : mm_ar f_0 0 7) (h3 : mm_ar f_1 0 9)  : mm_CI l yX11_rule (mm_ws yX11_rule cX11_rule 4 (some .int)) ({ frames := 2, cells := 0, slots := 0, locals := 41 } : Room) G cy sz [(a_0, .inr (11, [.ref a_1, .ref a_2, .ref a_3, .ref a_4, .ref a_5, .ref a_6, .ref a_7, .ref a_8, .ref a_9, .ref a_10, .ref a_11])), (a_3, .inr (10, [.ref a_12, .ref a_13])), (a_12, .inr (0, [.int i_3, .int i_4, .int i_5, .int i_6, .int i_7, .int i_8, .int i_9, .int i_10, .ref a_14, .ref a_15, .ref a_16, .ref a_17, .ref a_18, .ref a_19, .ref a_20, .ref a_21, .ref a_22, .ref a_23])), (a_16, .inl (cy 1, 3, .inl f_0)), (a_17, .inl (cy 1, 210, .inl f_1))] [.ref a_0, .int i_0, .int i_1, .int i_2] (fun u : Unit => [(a_0, .inr (11, [.ref a_1, .ref a_2, .ref a_3, .ref a_4, .ref a_5, .ref a_6, .ref a_7, .ref a_8, .ref a_9, .ref a_10, .ref a_11])), (a_3, .inr (10, [.ref a_12, .ref a_13])), (a_12, .inr (0, [.int i_3, .int i_4, .int i_5, .int i_6, .int i_7, .int i_8, .int i_9, .int i_10, .ref a_14, .ref a_15, .ref a_16, .ref a_17, .ref a_18, .ref a_19, .ref a_20, .ref a_21, .ref a_22, .ref a_23])), (a_16, .inl (cy 1, 3, .inl f_0)), (a_17, .inl (cy 1, 210, .inl f_1))]) (fun (r : Int32) (u : Unit) => mm_rg r (-2) 9) 0 0 := by
  refine mm_begin (lv := [(0, .ref a_0), (1, .int i_0), (2, .int i_1), (3, .int i_2)]) (by decide) (Nat.le_of_ble_eq_true rfl) rfl ?_
  intro p e s m below meth c A ls R args Q H locs hRe hQ hAe hx hb hr hlocks hml hown hnm hts hsz hA hS hP hK hD hZ hl
  have hRf : R.frames = 2 := by rw [hRe]
  have hRl : R.locals = 41 := by rw [hRe]
  have hRc : R.cells = 0 := by rw [hRe]
  have hRs : R.slots = 0 := by rw [hRe]
  refine lv_aload_n hx hb dX11_rule_0 rfl (lv_at hl 0 rfl) ?_
  refine lv_iload_n hx hb dX11_rule_1 rfl (lv_at hl 1 rfl) ?_
  refine mm_finir (va_runV (As := [.int i_0]) (rest := []) ⟨hx, hb, hml, hown, hts⟩ (K350_X11_isLand l G cy H.size a_0 i_0 a_1 a_2 a_3 a_4 a_5 a_6 a_7 a_8 a_9 a_10 a_11 a_12 a_13 i_3 i_4 i_5 i_6 i_7 i_8 i_9 i_10 a_14 a_15 a_16 a_17 a_18 a_19 a_20 a_21 a_22 a_23 h1) (cwV 1 hts (mm_gV mm_w626 mm_w627 mm_w628 mm_w2 mm_w629) rfl rfl rfl hd_X11_isLand ⟨by rw [hRf]; exact Nat.le_of_ble_eq_true rfl, by rw [hRl]; exact Nat.le_of_ble_eq_true rfl⟩) (mm_preV hK hZ hS hA hP hD [0, 1, 2] rfl rfl 0 rfl rfl rfl) rfl rfl hl.1 rfl (lv_room (Nat.le_of_ble_eq_true rfl)) dX11_rule_2 ⟨by rw [hRc]; exact Nat.le_of_ble_eq_true rfl, by rw [hRs]; exact Nat.le_of_ble_eq_true rfl⟩) hP hD hS hA [0, 1, 2] rfl (fun _ => rfl) ?_
  clear hP hD hS
  clear H locs
  intro v1 _u H locs hw hP hD hS
  rcases hw with ⟨rfl, w2⟩ | ⟨rfl, w3⟩
  · refine lv_if_eq (tgt := 36) hx hb dX11_rule_5 (by decide) (fun c4 => ?_) (fun c4 => ?_)
    · refine lv_bipush (v := (-2)) hx hb dX11_rule_36 (by decide) ?_
      subst hAe
      rw [hQ]
      exact W.iret (v := (-2)) hx hb hr (fun t ht hW => ⟨⟨(-2), (), rfl, (mm_wk mm_km2 (by decide)), by rw [ht]; exact hP, hK.warm hW, hD⟩, hS.F ht⟩) hS.2.2 dX11_rule_38
    · have q5 := mm_neL (lo := 1) (mm_ne c4) mm_k0 mm_k0 (by decide) (by decide)
      exact mm_no q5 (by decide)
  · refine lv_if_eq (tgt := 36) hx hb dX11_rule_5 (by decide) (fun c6 => ?_) (fun c6 => ?_)
    · exact mm_eqN c6.symm mm_k0 mm_k1 (by decide)
    · refine lv_aload_n hx hb dX11_rule_8 rfl (lv_at hl 0 rfl) ?_
      refine lv_iload_n hx hb dX11_rule_9 rfl (lv_at hl 3 rfl) ?_
      refine mm_finir (va_runV (As := [.int i_2]) (rest := []) ⟨hx, hb, hml, hown, hts⟩ (K351_X11_isWord l G cy H.size a_0 i_2 a_1 a_2 a_3 a_4 a_5 a_6 a_7 a_8 a_9 a_10 a_11 a_12 a_13 i_3 i_4 i_5 i_6 i_7 i_8 i_9 i_10 a_14 a_15 a_16 a_17 a_18 a_19 a_20 a_21 a_22 a_23 h0) (cwV 1 hts (mm_gV mm_w631 mm_w632 mm_w633 mm_w2 mm_w634) rfl rfl rfl hd_X11_isWord ⟨by rw [hRf]; exact Nat.le_of_ble_eq_true rfl, by rw [hRl]; exact Nat.le_of_ble_eq_true rfl⟩) (mm_preV hK hZ hS hA hP hD [0, 1, 2] rfl rfl 0 rfl rfl rfl) rfl rfl hl.1 rfl (lv_room (Nat.le_of_ble_eq_true rfl)) dX11_rule_10 ⟨by rw [hRc]; exact Nat.le_of_ble_eq_true rfl, by rw [hRs]; exact Nat.le_of_ble_eq_true rfl⟩) hP hD hS hA [0, 1, 2] rfl (fun _ => rfl) ?_
      clear hP hD hS
      clear H locs
      intro v7 _u H locs hw hP hD hS
      rcases hw with ⟨rfl, w8⟩ | ⟨rfl, w9⟩
      · refine lv_if_eq (tgt := 36) hx hb dX11_rule_13 (by decide) (fun c10 => ?_) (fun c10 => ?_)
        · refine lv_bipush (v := (-2)) hx hb dX11_rule_36 (by decide) ?_
          subst hAe
          rw [hQ]
          exact W.iret (v := (-2)) hx hb hr (fun t ht hW => ⟨⟨(-2), (), rfl, (mm_wk mm_km2 (by decide)), by rw [ht]; exact hP, hK.warm hW, hD⟩, hS.F ht⟩) hS.2.2 dX11_rule_38
        · have q11 := mm_neL (lo := 1) (mm_ne c10) mm_k0 mm_k0 (by decide) (by decide)
          exact mm_no q11 (by decide)
      · refine lv_if_eq (tgt := 36) hx hb dX11_rule_13 (by decide) (fun c12 => ?_) (fun c12 => ?_)
        · exact mm_eqN c12.symm mm_k0 mm_k1 (by decide)
        · refine lv_iload_n hx hb dX11_rule_16 rfl (lv_at hl 2 rfl) ?_
          refine lv_if_lt (tgt := 36) hx hb dX11_rule_17 (by decide) (fun c13 => ?_) (fun c13 => ?_)
          · have q14 := mm_ltL (h := (-1)) (mm_lt c13) (mm_top i_1) mm_k0 (by decide)
            refine lv_bipush (v := (-2)) hx hb dX11_rule_36 (by decide) ?_
            subst hAe
            rw [hQ]
            exact W.iret (v := (-2)) hx hb hr (fun t ht hW => ⟨⟨(-2), (), rfl, (mm_wk mm_km2 (by decide)), by rw [ht]; exact hP, hK.warm hW, hD⟩, hS.F ht⟩) hS.2.2 dX11_rule_38
          · have q15 := mm_leR (mm_nlt c13) mm_k0 (mm_top i_1)
            refine lv_iload_n hx hb dX11_rule_20 rfl (lv_at hl 2 rfl) ?_
            refine lv_aload_n hx hb dX11_rule_21 rfl (lv_at hl 0 rfl) ?_
            refine va_get (D := G) (ci := 11) (v := .ref a_3) (C := RX11) (T := TX11) (N := 11) hx hb hts (mm_i inlX11) hown hK.1 hP 0 rfl rfl 2 (by decide) (mm_h hts mm_w24) (fun _ h9 => h9) rfl dX11_rule_22 ?_
            refine va_get (D := G) (ci := 10) (v := .ref a_12) (C := RX10) (T := TX10) (N := 2) hx hb hts (mm_i inlX10) hown hK.1 hP 1 rfl rfl 0 (by decide) (mm_h hts mm_w199) (fun _ h9 => h9) rfl dX11_rule_25 ?_
            refine va_get (D := G) (ci := 0) (v := .ref a_16) (C := RX0) (T := TX0) (N := 18) hx hb hts (mm_i inlX0) hown hK.1 hP 2 rfl rfl 10 (by decide) (mm_h hts mm_w625) (fun _ h9 => h9) rfl dX11_rule_28 ?_
            refine lv_iload_n hx hb dX11_rule_31 rfl (lv_at hl 1 rfl) ?_
            refine va_iald hx hb hK.1 hP 3 1 rfl rfl (mm_in w3 (by decide)) dX11_rule_32 ?_
            refine lv_topi (fun v16 ev16 => ?_)
            have rv16 : mm_rg v16 0 7 := mm_eqv ev16 (h2 _)
            refine lv_icmp_lt (tgt := 39) hx hb dX11_rule_33 (by decide) (fun c17 => ?_) (fun c17 => ?_)
            · have q18 := mm_ltL (h := 6) (mm_lt c17) q15 rv16 (by decide)
              have q19 := mm_ltR (lo := 1) (mm_lt c17) q15 rv16 (by decide)
              refine lv_aload_n hx hb dX11_rule_39 rfl (lv_at hl 0 rfl) ?_
              refine va_get (D := G) (ci := 11) (v := .ref a_3) (C := RX11) (T := TX11) (N := 11) hx hb hts (mm_i inlX11) hown hK.1 hP 0 rfl rfl 2 (by decide) (mm_h hts mm_w24) (fun _ h9 => h9) rfl dX11_rule_40 ?_
              refine va_get (D := G) (ci := 10) (v := .ref a_12) (C := RX10) (T := TX10) (N := 2) hx hb hts (mm_i inlX10) hown hK.1 hP 1 rfl rfl 0 (by decide) (mm_h hts mm_w199) (fun _ h9 => h9) rfl dX11_rule_43 ?_
              refine lv_iload_n hx hb dX11_rule_46 rfl (lv_at hl 1 rfl) ?_
              refine lv_iload_n hx hb dX11_rule_47 rfl (lv_at hl 2 rfl) ?_
              refine lv_iload_n hx hb dX11_rule_48 rfl (lv_at hl 3 rfl) ?_
              refine mm_finir (va_runV (As := [.int i_0, .int i_1, .int i_2]) (rest := []) ⟨hx, hb, hml, hown, hts⟩ (K332_X0_taken l G cy H.size a_12 i_0 i_1 i_2 i_3 i_4 i_5 i_6 i_7 i_8 i_9 i_10 a_14 a_15 a_16 a_17 a_18 a_19 a_20 a_21 a_22 a_23 f_1 w3 q18 w9 h3) (cwV 3 hts (mm_gV mm_w636 mm_w404 mm_w405 mm_w28 mm_w406) rfl rfl rfl hd_X0_taken ⟨by rw [hRf]; exact Nat.le_of_ble_eq_true rfl, by rw [hRl]; exact Nat.le_of_ble_eq_true rfl⟩) (mm_preV hK hZ hS hA hP hD [2, 4] rfl rfl 2 rfl rfl rfl) rfl rfl hl.1 rfl (lv_room (Nat.le_of_ble_eq_true rfl)) dX11_rule_49 ⟨by rw [hRc]; exact Nat.le_of_ble_eq_true rfl, by rw [hRs]; exact Nat.le_of_ble_eq_true rfl⟩) hP hD hS hA [2, 4] rfl (fun _ => rfl) ?_
              clear hP hD hS
              clear H locs
              intro v20 _u H locs hw hP hD hS
              have w21 := hw
              subst hAe
              rw [hQ]
              exact W.iret (v := v20) hx hb hr (fun t ht hW => ⟨⟨v20, (), rfl, (mm_wk w21 (by decide)), by rw [ht]; exact hP, hK.warm hW, hD⟩, hS.F ht⟩) hS.2.2 dX11_rule_52
            · refine lv_bipush (v := (-2)) hx hb dX11_rule_36 (by decide) ?_
              subst hAe
              rw [hQ]
              exact W.iret (v := (-2)) hx hb hr (fun t ht hW => ⟨⟨(-2), (), rfl, (mm_wk mm_km2 (by decide)), by rw [ht]; exact hP, hK.warm hW, hD⟩, hS.F ht⟩) hS.2.2 dX11_rule_38

set_option maxHeartbeats 4000000 in
set_option maxRecDepth 100000 in
theorem K353_X11_isDay (l : Launch) (G : va_G) (cy : Nat → ClassId) (sz : Nat) (i_0 : Int32)   : mm_CI l yX11_isDay (mm_ws yX11_isDay cX11_isDay 1 (some .boolean)) ({ frames := 0, cells := 0, slots := 0, locals := 0 } : Room) G cy sz [] [.int i_0] (fun u : Unit => []) (fun (r : Int32) (u : Unit) => ((0 = r ∧ mm_rg i_0 (-2147483648) 2147483647) ∨ (1 = r ∧ mm_rg i_0 0 1000000000))) 0 0 := by
  refine mm_begin (lv := [(0, .int i_0)]) (by decide) (Nat.le_of_ble_eq_true rfl) rfl ?_
  intro p e s m below meth c A ls R args Q H locs hRe hQ hAe hx hb hr hlocks hml hown hnm hts hsz hA hS hP hK hD hZ hl
  have hRf : R.frames = 0 := by rw [hRe]
  have hRl : R.locals = 0 := by rw [hRe]
  have hRc : R.cells = 0 := by rw [hRe]
  have hRs : R.slots = 0 := by rw [hRe]
  refine lv_iload_n hx hb dX11_isDay_0 rfl (lv_at hl 0 rfl) ?_
  refine lv_if_lt (tgt := 15) hx hb dX11_isDay_1 (by decide) (fun c1 => ?_) (fun c1 => ?_)
  · have q2 := mm_ltL (h := (-1)) (mm_lt c1) (mm_top i_0) mm_k0 (by decide)
    refine lv_iconst (v := 0) hx hb dX11_isDay_15 (by decide) ?_
    subst hAe
    rw [hQ]
    exact W.zret (v := 0) hx hb hr rfl (fun t ht hW => ⟨⟨0, (), rfl, (Or.inl ⟨rfl, (mm_wk q2 (by decide))⟩), by rw [ht]; exact hP, hK.warm hW, hD⟩, hS.F ht⟩) hS.2.2 dX11_isDay_16
  · have q3 := mm_leR (mm_nlt c1) mm_k0 (mm_top i_0)
    refine lv_iload_n hx hb dX11_isDay_4 rfl (lv_at hl 0 rfl) ?_
    refine lv_ldcw (v := 1000000000) hx hb hown (mm_h hts mm_w664) dX11_isDay_5 ?_
    refine lv_icmp_gt (tgt := 15) hx hb dX11_isDay_8 (by decide) (fun c4 => ?_) (fun c4 => ?_)
    · have q5 := mm_ltR (lo := 1000000001) (mm_lt c4) mm_k1000000000 q3 (by decide)
      refine lv_iconst (v := 0) hx hb dX11_isDay_15 (by decide) ?_
      subst hAe
      rw [hQ]
      exact W.zret (v := 0) hx hb hr rfl (fun t ht hW => ⟨⟨0, (), rfl, (Or.inl ⟨rfl, (mm_wk q5 (by decide))⟩), by rw [ht]; exact hP, hK.warm hW, hD⟩, hS.F ht⟩) hS.2.2 dX11_isDay_16
    · have q6 := mm_leL (mm_nlt c4) q3 mm_k1000000000
      refine lv_iconst (v := 1) hx hb dX11_isDay_11 (by decide) ?_
      refine lv_goto (tgt := 16) hx hb dX11_isDay_12 (by decide) ?_
      subst hAe
      rw [hQ]
      exact W.zret (v := 1) hx hb hr rfl (fun t ht hW => ⟨⟨1, (), rfl, (Or.inr ⟨rfl, q6⟩), by rw [ht]; exact hP, hK.warm hW, hD⟩, hS.F ht⟩) hS.2.2 dX11_isDay_16

set_option maxHeartbeats 4000000 in
set_option maxRecDepth 100000 in
theorem K354_X1_sourceOf (l : Launch) (G : va_G) (cy : Nat → ClassId) (sz : Nat) (a_0 : Nat) (i_0 : Int32) (i_1 : Int32) (a_1 : Nat) (a_2 : Nat) (i_2 : Int32) (i_3 : Int32) (i_4 : Int32) (f_0 : Nat → Int32) (h0 : mm_rg i_0 0 2147483647) (h1 : mm_rg i_1 0 9) (h2 : mm_rg i_4 (-2147483648) 210) (h3 : mm_ar f_0 0 9)  : mm_CI l yX1_sourceOf (mm_ws yX1_sourceOf cX1_sourceOf 3 (some .int)) ({ frames := 0, cells := 0, slots := 0, locals := 0 } : Room) G cy sz [(a_0, .inr (1, [.ref a_1, .ref a_2, .int i_2, .int i_3, .int i_4])), (a_1, .inl (cy 1, 2100, .inl f_0))] [.ref a_0, .int i_0, .int i_1] (fun u : Unit => [(a_0, .inr (1, [.ref a_1, .ref a_2, .int i_2, .int i_3, .int i_4])), (a_1, .inl (cy 1, 2100, .inl f_0))]) (fun (r : Int32) (u : Unit) => mm_rg r 0 9) 0 0 := by
  refine mm_begin (lv := [(0, .ref a_0), (1, .int i_0), (2, .int i_1)]) (by decide) (Nat.le_of_ble_eq_true rfl) rfl ?_
  intro p e s m below meth c A ls R args Q H locs hRe hQ hAe hx hb hr hlocks hml hown hnm hts hsz hA hS hP hK hD hZ hl
  have hRf : R.frames = 0 := by rw [hRe]
  have hRl : R.locals = 0 := by rw [hRe]
  have hRc : R.cells = 0 := by rw [hRe]
  have hRs : R.slots = 0 := by rw [hRe]
  refine lv_aload_n hx hb dX1_sourceOf_0 rfl (lv_at hl 0 rfl) ?_
  refine va_get (D := G) (ci := 1) (v := .int i_4) (C := RX1) (T := TX1) (N := 5) hx hb hts (mm_i inlX1) hown hK.1 hP 0 rfl rfl 4 (by decide) (mm_h hts mm_w99) (fun _ h9 => h9) rfl dX1_sourceOf_1 ?_
  refine lv_iconst (v := 1) hx hb dX1_sourceOf_4 (by decide) ?_
  refine lv_icmp_ge (tgt := 12) hx hb dX1_sourceOf_5 (by decide) (fun c1 => ?_) (fun c1 => ?_)
  · have q2 := mm_leR (mm_le c1) mm_k1 h2
    refine lv_aload_n hx hb dX1_sourceOf_12 rfl (lv_at hl 0 rfl) ?_
    refine va_get (D := G) (ci := 1) (v := .ref a_1) (C := RX1) (T := TX1) (N := 5) hx hb hts (mm_i inlX1) hown hK.1 hP 0 rfl rfl 0 (by decide) (mm_h hts mm_w95) (fun _ h9 => h9) rfl dX1_sourceOf_13 ?_
    refine lv_iload_n hx hb dX1_sourceOf_16 rfl (lv_at hl 1 rfl) ?_
    refine lv_aload_n hx hb dX1_sourceOf_17 rfl (lv_at hl 0 rfl) ?_
    refine va_get (D := G) (ci := 1) (v := .int i_4) (C := RX1) (T := TX1) (N := 5) hx hb hts (mm_i inlX1) hown hK.1 hP 0 rfl rfl 4 (by decide) (mm_h hts mm_w99) (fun _ h9 => h9) rfl dX1_sourceOf_18 ?_
    refine lv_irem hx hb dX1_sourceOf_21 (mm_nz q2 (by decide)) ?_
    refine lv_topi (fun v3 ev3 => ?_)
    have rv3 : mm_rg v3 0 209 := mm_rem ev3 h0 q2 (by decide) (by decide)
    refine lv_bipush (v := 10) hx hb dX1_sourceOf_22 (by decide) ?_
    refine lv_imul hx hb dX1_sourceOf_24 ?_
    refine lv_topi (fun v4 ev4 => ?_)
    have rv4 : mm_rg v4 0 2090 := mm_mul ev4 rv3 mm_k10 (by decide) (by decide)
    refine lv_iload_n hx hb dX1_sourceOf_25 rfl (lv_at hl 2 rfl) ?_
    refine lv_iadd hx hb dX1_sourceOf_26 ?_
    refine lv_topi (fun v5 ev5 => ?_)
    have rv5 : mm_rg v5 0 2099 := mm_add ev5 rv4 h1 (by decide) (by decide)
    have tv5 := mm_addE ev5 rv4 h1 (by decide)
    refine va_iald hx hb hK.1 hP 1 1 rfl rfl (mm_in rv5 (by decide)) dX1_sourceOf_27 ?_
    refine lv_topi (fun v6 ev6 => ?_)
    have rv6 : mm_rg v6 0 9 := mm_eqv ev6 (h3 _)
    subst hAe
    rw [hQ]
    exact W.iret (v := v6) hx hb hr (fun t ht hW => ⟨⟨v6, (), rfl, rv6, by rw [ht]; exact hP, hK.warm hW, hD⟩, hS.F ht⟩) hS.2.2 dX1_sourceOf_28
  · have q7 := mm_ltL (h := 0) (mm_nle c1) h2 mm_k1 (by decide)
    refine lv_iload_n hx hb dX1_sourceOf_8 rfl (lv_at hl 2 rfl) ?_
    refine lv_goto (tgt := 28) hx hb dX1_sourceOf_9 (by decide) ?_
    subst hAe
    rw [hQ]
    exact W.iret (v := i_1) hx hb hr (fun t ht hW => ⟨⟨i_1, (), rfl, h1, by rw [ht]; exact hP, hK.warm hW, hD⟩, hS.F ht⟩) hS.2.2 dX1_sourceOf_28

set_option maxHeartbeats 4000000 in
set_option maxRecDepth 100000 in
theorem K355_X10_meaning (l : Launch) (G : va_G) (cy : Nat → ClassId) (sz : Nat) (a_0 : Nat) (i_0 : Int32) (i_1 : Int32) (i_2 : Int32) (a_1 : Nat) (a_2 : Nat) (i_3 : Int32) (i_4 : Int32) (i_5 : Int32) (i_6 : Int32) (i_7 : Int32) (i_8 : Int32) (i_9 : Int32) (i_10 : Int32) (a_3 : Nat) (a_4 : Nat) (a_5 : Nat) (a_6 : Nat) (a_7 : Nat) (a_8 : Nat) (a_9 : Nat) (a_10 : Nat) (a_11 : Nat) (a_12 : Nat) (f_0 : Nat → Int32) (a_13 : Nat) (a_14 : Nat) (a_15 : Nat) (a_16 : Nat) (a_17 : Nat) (i_11 : Int32) (i_12 : Int32) (i_13 : Int32) (f_1 : Nat → Int32) (a_18 : Nat) (a_19 : Nat) (i_14 : Int32) (i_15 : Int32) (i_16 : Int32) (f_2 : Nat → Int32) (a_20 : Nat) (a_21 : Nat) (i_17 : Int32) (i_18 : Int32) (i_19 : Int32) (f_3 : Nat → Int32) (h0 : mm_rg i_0 0 2) (h1 : mm_rg i_1 0 2147483647) (h2 : mm_rg i_2 0 9) (h3 : mm_ar f_0 0 9) (h4 : mm_rg i_13 (-2147483648) 210) (h5 : mm_ar f_1 0 9) (h6 : mm_rg i_16 (-2147483648) 210) (h7 : mm_ar f_2 0 9) (h8 : mm_rg i_19 (-2147483648) 210) (h9 : mm_ar f_3 0 9)  : mm_CI l yX10_meaning (mm_ws yX10_meaning cX10_meaning 4 (some .int)) ({ frames := 1, cells := 0, slots := 0, locals := 22 } : Room) G cy sz [(a_0, .inr (10, [.ref a_1, .ref a_2])), (a_1, .inr (0, [.int i_3, .int i_4, .int i_5, .int i_6, .int i_7, .int i_8, .int i_9, .int i_10, .ref a_3, .ref a_4, .ref a_5, .ref a_6, .ref a_7, .ref a_8, .ref a_9, .ref a_10, .ref a_11, .ref a_12])), (a_9, .inl (cy 1, 30, .inl f_0)), (a_2, .inl (cy 5, 3, .inr (.inr (.inr (.inr (va_up (va_up (va_up (fun _ => none) 0 (some a_13)) 1 (some a_14)) 2 (some a_15))))))), (a_13, .inr (1, [.ref a_16, .ref a_17, .int i_11, .int i_12, .int i_13])), (a_16, .inl (cy 1, 2100, .inl f_1)), (a_14, .inr (1, [.ref a_18, .ref a_19, .int i_14, .int i_15, .int i_16])), (a_18, .inl (cy 1, 2100, .inl f_2)), (a_15, .inr (1, [.ref a_20, .ref a_21, .int i_17, .int i_18, .int i_19])), (a_20, .inl (cy 1, 2100, .inl f_3))] [.ref a_0, .int i_0, .int i_1, .int i_2] (fun u : Unit => [(a_0, .inr (10, [.ref a_1, .ref a_2])), (a_1, .inr (0, [.int i_3, .int i_4, .int i_5, .int i_6, .int i_7, .int i_8, .int i_9, .int i_10, .ref a_3, .ref a_4, .ref a_5, .ref a_6, .ref a_7, .ref a_8, .ref a_9, .ref a_10, .ref a_11, .ref a_12])), (a_9, .inl (cy 1, 30, .inl f_0)), (a_2, .inl (cy 5, 3, .inr (.inr (.inr (.inr (va_up (va_up (va_up (fun _ => none) 0 (some a_13)) 1 (some a_14)) 2 (some a_15))))))), (a_13, .inr (1, [.ref a_16, .ref a_17, .int i_11, .int i_12, .int i_13])), (a_16, .inl (cy 1, 2100, .inl f_1)), (a_14, .inr (1, [.ref a_18, .ref a_19, .int i_14, .int i_15, .int i_16])), (a_18, .inl (cy 1, 2100, .inl f_2)), (a_15, .inr (1, [.ref a_20, .ref a_21, .int i_17, .int i_18, .int i_19])), (a_20, .inl (cy 1, 2100, .inl f_3))]) (fun (r : Int32) (u : Unit) => mm_rg r 0 9) 0 0 := by
  refine mm_begin (lv := [(0, .ref a_0), (1, .int i_0), (2, .int i_1), (3, .int i_2)]) (by decide) (Nat.le_of_ble_eq_true rfl) rfl ?_
  intro p e s m below meth c A ls R args Q H locs hRe hQ hAe hx hb hr hlocks hml hown hnm hts hsz hA hS hP hK hD hZ hl
  have hRf : R.frames = 1 := by rw [hRe]
  have hRl : R.locals = 22 := by rw [hRe]
  have hRc : R.cells = 0 := by rw [hRe]
  have hRs : R.slots = 0 := by rw [hRe]
  refine lv_aload_n hx hb dX10_meaning_0 rfl (lv_at hl 0 rfl) ?_
  refine va_get (D := G) (ci := 10) (v := .ref a_1) (C := RX10) (T := TX10) (N := 2) hx hb hts (mm_i inlX10) hown hK.1 hP 0 rfl rfl 0 (by decide) (mm_h hts mm_w87) (fun _ h9 => h9) rfl dX10_meaning_1 ?_
  refine va_get (D := G) (ci := 0) (v := .ref a_9) (C := RX0) (T := TX0) (N := 18) hx hb hts (mm_i inlX0) hown hK.1 hP 1 rfl rfl 14 (by decide) (mm_h hts mm_w669) (fun _ h9 => h9) rfl dX10_meaning_4 ?_
  refine lv_iload_n hx hb dX10_meaning_7 rfl (lv_at hl 1 rfl) ?_
  refine lv_bipush (v := 10) hx hb dX10_meaning_8 (by decide) ?_
  refine lv_imul hx hb dX10_meaning_10 ?_
  refine lv_topi (fun v1 ev1 => ?_)
  have rv1 : mm_rg v1 0 20 := mm_mul ev1 h0 mm_k10 (by decide) (by decide)
  refine lv_aload_n hx hb dX10_meaning_11 rfl (lv_at hl 0 rfl) ?_
  refine va_get (D := G) (ci := 10) (v := .ref a_2) (C := RX10) (T := TX10) (N := 2) hx hb hts (mm_i inlX10) hown hK.1 hP 0 rfl rfl 1 (by decide) (mm_h hts mm_w89) (fun _ h9 => h9) rfl dX10_meaning_12 ?_
  refine lv_iload_n hx hb dX10_meaning_15 rfl (lv_at hl 1 rfl) ?_
  refine va_aldq hx hb hK.1 hP 3 5 rfl rfl (mm_in h0 (by decide)) dX10_meaning_16 ?_
  have c2 := mm_cases3 h0
  rcases c2 with rfl | rfl | rfl
  · refine W.eq (g2 := F0 m 17 ls [.ref a_13, .int v1, .ref a_9]) rfl ?_
    refine lv_iload_n hx hb dX10_meaning_17 rfl (lv_at hl 2 rfl) ?_
    refine lv_iload_n hx hb dX10_meaning_18 rfl (lv_at hl 3 rfl) ?_
    refine mm_finir (va_runV (As := [.int i_1, .int i_2]) (rest := [.int v1, .ref a_9]) ⟨hx, hb, hml, hown, hts⟩ (K354_X1_sourceOf l G cy H.size a_13 i_1 i_2 a_16 a_17 i_11 i_12 i_13 f_1 h1 h2 h4 h5) (cwV 2 hts (mm_gV mm_w670 mm_w671 mm_w672 mm_w91 mm_w673) rfl rfl rfl hd_X1_sourceOf ⟨by rw [hRf]; exact Nat.le_of_ble_eq_true rfl, by rw [hRl]; exact Nat.le_of_ble_eq_true rfl⟩) (mm_preV hK hZ hS hA hP hD [4, 5] rfl rfl 4 rfl rfl rfl) rfl rfl hl.1 rfl (lv_room (Nat.le_of_ble_eq_true rfl)) dX10_meaning_19 ⟨by rw [hRc]; exact Nat.le_of_ble_eq_true rfl, by rw [hRs]; exact Nat.le_of_ble_eq_true rfl⟩) hP hD hS hA [4, 5] rfl (fun _ => rfl) ?_
    clear hP hD hS
    clear H locs
    intro v3 _u H locs hw hP hD hS
    have w4 := hw
    refine lv_iadd hx hb dX10_meaning_22 ?_
    refine lv_topi (fun v5 ev5 => ?_)
    have rv5 : mm_rg v5 0 29 := mm_add ev5 rv1 w4 (by decide) (by decide)
    have tv5 := mm_addE ev5 rv1 w4 (by decide)
    refine va_iald hx hb hK.1 hP 2 1 rfl rfl (mm_in rv5 (by decide)) dX10_meaning_23 ?_
    refine lv_topi (fun v6 ev6 => ?_)
    have rv6 : mm_rg v6 0 9 := mm_eqv ev6 (h3 _)
    subst hAe
    rw [hQ]
    exact W.iret (v := v6) hx hb hr (fun t ht hW => ⟨⟨v6, (), rfl, rv6, by rw [ht]; exact hP, hK.warm hW, hD⟩, hS.F ht⟩) hS.2.2 dX10_meaning_24
  · refine W.eq (g2 := F0 m 17 ls [.ref a_14, .int v1, .ref a_9]) rfl ?_
    refine lv_iload_n hx hb dX10_meaning_17 rfl (lv_at hl 2 rfl) ?_
    refine lv_iload_n hx hb dX10_meaning_18 rfl (lv_at hl 3 rfl) ?_
    refine mm_finir (va_runV (As := [.int i_1, .int i_2]) (rest := [.int v1, .ref a_9]) ⟨hx, hb, hml, hown, hts⟩ (K354_X1_sourceOf l G cy H.size a_14 i_1 i_2 a_18 a_19 i_14 i_15 i_16 f_2 h1 h2 h6 h7) (cwV 2 hts (mm_gV mm_w670 mm_w671 mm_w672 mm_w91 mm_w673) rfl rfl rfl hd_X1_sourceOf ⟨by rw [hRf]; exact Nat.le_of_ble_eq_true rfl, by rw [hRl]; exact Nat.le_of_ble_eq_true rfl⟩) (mm_preV hK hZ hS hA hP hD [6, 7] rfl rfl 6 rfl rfl rfl) rfl rfl hl.1 rfl (lv_room (Nat.le_of_ble_eq_true rfl)) dX10_meaning_19 ⟨by rw [hRc]; exact Nat.le_of_ble_eq_true rfl, by rw [hRs]; exact Nat.le_of_ble_eq_true rfl⟩) hP hD hS hA [6, 7] rfl (fun _ => rfl) ?_
    clear hP hD hS
    clear H locs
    intro v7 _u H locs hw hP hD hS
    have w8 := hw
    refine lv_iadd hx hb dX10_meaning_22 ?_
    refine lv_topi (fun v9 ev9 => ?_)
    have rv9 : mm_rg v9 0 29 := mm_add ev9 rv1 w8 (by decide) (by decide)
    have tv9 := mm_addE ev9 rv1 w8 (by decide)
    refine va_iald hx hb hK.1 hP 2 1 rfl rfl (mm_in rv9 (by decide)) dX10_meaning_23 ?_
    refine lv_topi (fun v10 ev10 => ?_)
    have rv10 : mm_rg v10 0 9 := mm_eqv ev10 (h3 _)
    subst hAe
    rw [hQ]
    exact W.iret (v := v10) hx hb hr (fun t ht hW => ⟨⟨v10, (), rfl, rv10, by rw [ht]; exact hP, hK.warm hW, hD⟩, hS.F ht⟩) hS.2.2 dX10_meaning_24
  · refine W.eq (g2 := F0 m 17 ls [.ref a_15, .int v1, .ref a_9]) rfl ?_
    refine lv_iload_n hx hb dX10_meaning_17 rfl (lv_at hl 2 rfl) ?_
    refine lv_iload_n hx hb dX10_meaning_18 rfl (lv_at hl 3 rfl) ?_
    refine mm_finir (va_runV (As := [.int i_1, .int i_2]) (rest := [.int v1, .ref a_9]) ⟨hx, hb, hml, hown, hts⟩ (K354_X1_sourceOf l G cy H.size a_15 i_1 i_2 a_20 a_21 i_17 i_18 i_19 f_3 h1 h2 h8 h9) (cwV 2 hts (mm_gV mm_w670 mm_w671 mm_w672 mm_w91 mm_w673) rfl rfl rfl hd_X1_sourceOf ⟨by rw [hRf]; exact Nat.le_of_ble_eq_true rfl, by rw [hRl]; exact Nat.le_of_ble_eq_true rfl⟩) (mm_preV hK hZ hS hA hP hD [8, 9] rfl rfl 8 rfl rfl rfl) rfl rfl hl.1 rfl (lv_room (Nat.le_of_ble_eq_true rfl)) dX10_meaning_19 ⟨by rw [hRc]; exact Nat.le_of_ble_eq_true rfl, by rw [hRs]; exact Nat.le_of_ble_eq_true rfl⟩) hP hD hS hA [8, 9] rfl (fun _ => rfl) ?_
    clear hP hD hS
    clear H locs
    intro v11 _u H locs hw hP hD hS
    have w12 := hw
    refine lv_iadd hx hb dX10_meaning_22 ?_
    refine lv_topi (fun v13 ev13 => ?_)
    have rv13 : mm_rg v13 0 29 := mm_add ev13 rv1 w12 (by decide) (by decide)
    have tv13 := mm_addE ev13 rv1 w12 (by decide)
    refine va_iald hx hb hK.1 hP 2 1 rfl rfl (mm_in rv13 (by decide)) dX10_meaning_23 ?_
    refine lv_topi (fun v14 ev14 => ?_)
    have rv14 : mm_rg v14 0 9 := mm_eqv ev14 (h3 _)
    subst hAe
    rw [hQ]
    exact W.iret (v := v14) hx hb hr (fun t ht hW => ⟨⟨v14, (), rfl, rv14, by rw [ht]; exact hP, hK.warm hW, hD⟩, hS.F ht⟩) hS.2.2 dX10_meaning_24

set_option maxHeartbeats 4000000 in
set_option maxRecDepth 100000 in
theorem K356_X11_means (l : Launch) (G : va_G) (cy : Nat → ClassId) (sz : Nat) (a_0 : Nat) (i_0 : Int32) (i_1 : Int32) (i_2 : Int32) (a_1 : Nat) (a_2 : Nat) (a_3 : Nat) (a_4 : Nat) (a_5 : Nat) (a_6 : Nat) (a_7 : Nat) (a_8 : Nat) (a_9 : Nat) (a_10 : Nat) (a_11 : Nat) (a_12 : Nat) (a_13 : Nat) (i_3 : Int32) (i_4 : Int32) (i_5 : Int32) (i_6 : Int32) (i_7 : Int32) (i_8 : Int32) (i_9 : Int32) (i_10 : Int32) (a_14 : Nat) (a_15 : Nat) (a_16 : Nat) (a_17 : Nat) (a_18 : Nat) (a_19 : Nat) (a_20 : Nat) (a_21 : Nat) (a_22 : Nat) (a_23 : Nat) (f_0 : Nat → Int32) (a_24 : Nat) (a_25 : Nat) (a_26 : Nat) (a_27 : Nat) (a_28 : Nat) (i_11 : Int32) (i_12 : Int32) (i_13 : Int32) (f_1 : Nat → Int32) (a_29 : Nat) (a_30 : Nat) (i_14 : Int32) (i_15 : Int32) (i_16 : Int32) (f_2 : Nat → Int32) (a_31 : Nat) (a_32 : Nat) (i_17 : Int32) (i_18 : Int32) (i_19 : Int32) (f_3 : Nat → Int32) (h0 : mm_rg i_7 0 9) (h1 : mm_rg i_8 0 3) (h2 : mm_ar f_0 0 9) (h3 : mm_rg i_13 (-2147483648) 210) (h4 : mm_ar f_1 0 9) (h5 : mm_rg i_16 (-2147483648) 210) (h6 : mm_ar f_2 0 9) (h7 : mm_rg i_19 (-2147483648) 210) (h8 : mm_ar f_3 0 9)  : mm_CI l yX11_means (mm_ws yX11_means cX11_means 4 (some .int)) ({ frames := 2, cells := 0, slots := 0, locals := 45 } : Room) G cy sz [(a_0, .inr (11, [.ref a_1, .ref a_2, .ref a_3, .ref a_4, .ref a_5, .ref a_6, .ref a_7, .ref a_8, .ref a_9, .ref a_10, .ref a_11])), (a_3, .inr (10, [.ref a_12, .ref a_13])), (a_12, .inr (0, [.int i_3, .int i_4, .int i_5, .int i_6, .int i_7, .int i_8, .int i_9, .int i_10, .ref a_14, .ref a_15, .ref a_16, .ref a_17, .ref a_18, .ref a_19, .ref a_20, .ref a_21, .ref a_22, .ref a_23])), (a_20, .inl (cy 1, 30, .inl f_0)), (a_13, .inl (cy 5, 3, .inr (.inr (.inr (.inr (va_up (va_up (va_up (fun _ => none) 0 (some a_24)) 1 (some a_25)) 2 (some a_26))))))), (a_24, .inr (1, [.ref a_27, .ref a_28, .int i_11, .int i_12, .int i_13])), (a_27, .inl (cy 1, 2100, .inl f_1)), (a_25, .inr (1, [.ref a_29, .ref a_30, .int i_14, .int i_15, .int i_16])), (a_29, .inl (cy 1, 2100, .inl f_2)), (a_26, .inr (1, [.ref a_31, .ref a_32, .int i_17, .int i_18, .int i_19])), (a_31, .inl (cy 1, 2100, .inl f_3))] [.ref a_0, .int i_0, .int i_1, .int i_2] (fun u : Unit => [(a_0, .inr (11, [.ref a_1, .ref a_2, .ref a_3, .ref a_4, .ref a_5, .ref a_6, .ref a_7, .ref a_8, .ref a_9, .ref a_10, .ref a_11])), (a_3, .inr (10, [.ref a_12, .ref a_13])), (a_12, .inr (0, [.int i_3, .int i_4, .int i_5, .int i_6, .int i_7, .int i_8, .int i_9, .int i_10, .ref a_14, .ref a_15, .ref a_16, .ref a_17, .ref a_18, .ref a_19, .ref a_20, .ref a_21, .ref a_22, .ref a_23])), (a_20, .inl (cy 1, 30, .inl f_0)), (a_13, .inl (cy 5, 3, .inr (.inr (.inr (.inr (va_up (va_up (va_up (fun _ => none) 0 (some a_24)) 1 (some a_25)) 2 (some a_26))))))), (a_24, .inr (1, [.ref a_27, .ref a_28, .int i_11, .int i_12, .int i_13])), (a_27, .inl (cy 1, 2100, .inl f_1)), (a_25, .inr (1, [.ref a_29, .ref a_30, .int i_14, .int i_15, .int i_16])), (a_29, .inl (cy 1, 2100, .inl f_2)), (a_26, .inr (1, [.ref a_31, .ref a_32, .int i_17, .int i_18, .int i_19])), (a_31, .inl (cy 1, 2100, .inl f_3))]) (fun (r : Int32) (u : Unit) => mm_rg r (-2) 9) 0 0 := by
  refine mm_begin (lv := [(0, .ref a_0), (1, .int i_0), (2, .int i_1), (3, .int i_2)]) (by decide) (Nat.le_of_ble_eq_true rfl) rfl ?_
  intro p e s m below meth c A ls R args Q H locs hRe hQ hAe hx hb hr hlocks hml hown hnm hts hsz hA hS hP hK hD hZ hl
  have hRf : R.frames = 2 := by rw [hRe]
  have hRl : R.locals = 45 := by rw [hRe]
  have hRc : R.cells = 0 := by rw [hRe]
  have hRs : R.slots = 0 := by rw [hRe]
  refine lv_aload_n hx hb dX11_means_0 rfl (lv_at hl 0 rfl) ?_
  refine lv_iload_n hx hb dX11_means_1 rfl (lv_at hl 1 rfl) ?_
  refine mm_finir (va_runV (As := [.int i_0]) (rest := []) ⟨hx, hb, hml, hown, hts⟩ (K350_X11_isLand l G cy H.size a_0 i_0 a_1 a_2 a_3 a_4 a_5 a_6 a_7 a_8 a_9 a_10 a_11 a_12 a_13 i_3 i_4 i_5 i_6 i_7 i_8 i_9 i_10 a_14 a_15 a_16 a_17 a_18 a_19 a_20 a_21 a_22 a_23 h1) (cwV 1 hts (mm_gV mm_w626 mm_w627 mm_w628 mm_w2 mm_w629) rfl rfl rfl hd_X11_isLand ⟨by rw [hRf]; exact Nat.le_of_ble_eq_true rfl, by rw [hRl]; exact Nat.le_of_ble_eq_true rfl⟩) (mm_preV hK hZ hS hA hP hD [0, 1, 2] rfl rfl 0 rfl rfl rfl) rfl rfl hl.1 rfl (lv_room (Nat.le_of_ble_eq_true rfl)) dX11_means_2 ⟨by rw [hRc]; exact Nat.le_of_ble_eq_true rfl, by rw [hRs]; exact Nat.le_of_ble_eq_true rfl⟩) hP hD hS hA [0, 1, 2] rfl (fun _ => rfl) ?_
  clear hP hD hS
  clear H locs
  intro v1 _u H locs hw hP hD hS
  rcases hw with ⟨rfl, w2⟩ | ⟨rfl, w3⟩
  · refine lv_if_eq (tgt := 23) hx hb dX11_means_5 (by decide) (fun c4 => ?_) (fun c4 => ?_)
    · refine lv_bipush (v := (-2)) hx hb dX11_means_23 (by decide) ?_
      subst hAe
      rw [hQ]
      exact W.iret (v := (-2)) hx hb hr (fun t ht hW => ⟨⟨(-2), (), rfl, (mm_wk mm_km2 (by decide)), by rw [ht]; exact hP, hK.warm hW, hD⟩, hS.F ht⟩) hS.2.2 dX11_means_25
    · have q5 := mm_neL (lo := 1) (mm_ne c4) mm_k0 mm_k0 (by decide) (by decide)
      exact mm_no q5 (by decide)
  · refine lv_if_eq (tgt := 23) hx hb dX11_means_5 (by decide) (fun c6 => ?_) (fun c6 => ?_)
    · exact mm_eqN c6.symm mm_k0 mm_k1 (by decide)
    · refine lv_iload_n hx hb dX11_means_8 rfl (lv_at hl 2 rfl) ?_
      refine mm_finir (va_runS (As := [.int i_1]) (rest := []) ⟨hx, hb, hml, hown, hts⟩ (K353_X11_isDay l G cy H.size i_1 ) (va_cwS 1 hts (mm_gS mm_w661 mm_w662 mm_w2 mm_w663) rfl rfl rfl hs_X11_isDay ⟨by rw [hRf]; exact Nat.le_of_ble_eq_true rfl, by rw [hRl]; exact Nat.le_of_ble_eq_true rfl⟩) (mm_preS hK hZ hS hA hP hD [] rfl rfl) rfl rfl hl.1 rfl (lv_room (Nat.le_of_ble_eq_true rfl)) dX11_means_9 ⟨by rw [hRc]; exact Nat.le_of_ble_eq_true rfl, by rw [hRs]; exact Nat.le_of_ble_eq_true rfl⟩) hP hD hS hA [] rfl (fun _ => rfl) ?_
      clear hP hD hS
      clear H locs
      intro v7 _u H locs hw hP hD hS
      rcases hw with ⟨rfl, w8⟩ | ⟨rfl, w9⟩
      · refine lv_if_eq (tgt := 23) hx hb dX11_means_12 (by decide) (fun c10 => ?_) (fun c10 => ?_)
        · refine lv_bipush (v := (-2)) hx hb dX11_means_23 (by decide) ?_
          subst hAe
          rw [hQ]
          exact W.iret (v := (-2)) hx hb hr (fun t ht hW => ⟨⟨(-2), (), rfl, (mm_wk mm_km2 (by decide)), by rw [ht]; exact hP, hK.warm hW, hD⟩, hS.F ht⟩) hS.2.2 dX11_means_25
        · have q11 := mm_neL (lo := 1) (mm_ne c10) mm_k0 mm_k0 (by decide) (by decide)
          exact mm_no q11 (by decide)
      · refine lv_if_eq (tgt := 23) hx hb dX11_means_12 (by decide) (fun c12 => ?_) (fun c12 => ?_)
        · exact mm_eqN c12.symm mm_k0 mm_k1 (by decide)
        · refine lv_aload_n hx hb dX11_means_15 rfl (lv_at hl 0 rfl) ?_
          refine lv_iload_n hx hb dX11_means_16 rfl (lv_at hl 3 rfl) ?_
          refine mm_finir (va_runV (As := [.int i_2]) (rest := []) ⟨hx, hb, hml, hown, hts⟩ (K351_X11_isWord l G cy H.size a_0 i_2 a_1 a_2 a_3 a_4 a_5 a_6 a_7 a_8 a_9 a_10 a_11 a_12 a_13 i_3 i_4 i_5 i_6 i_7 i_8 i_9 i_10 a_14 a_15 a_16 a_17 a_18 a_19 a_20 a_21 a_22 a_23 h0) (cwV 1 hts (mm_gV mm_w631 mm_w632 mm_w633 mm_w2 mm_w634) rfl rfl rfl hd_X11_isWord ⟨by rw [hRf]; exact Nat.le_of_ble_eq_true rfl, by rw [hRl]; exact Nat.le_of_ble_eq_true rfl⟩) (mm_preV hK hZ hS hA hP hD [0, 1, 2] rfl rfl 0 rfl rfl rfl) rfl rfl hl.1 rfl (lv_room (Nat.le_of_ble_eq_true rfl)) dX11_means_17 ⟨by rw [hRc]; exact Nat.le_of_ble_eq_true rfl, by rw [hRs]; exact Nat.le_of_ble_eq_true rfl⟩) hP hD hS hA [0, 1, 2] rfl (fun _ => rfl) ?_
          clear hP hD hS
          clear H locs
          intro v13 _u H locs hw hP hD hS
          rcases hw with ⟨rfl, w14⟩ | ⟨rfl, w15⟩
          · refine lv_if_ne (tgt := 26) hx hb dX11_means_20 (by decide) (fun c16 => ?_) (fun c16 => ?_)
            · have q17 := mm_neL (lo := 1) (mm_ne c16) mm_k0 mm_k0 (by decide) (by decide)
              exact mm_no q17 (by decide)
            · refine lv_bipush (v := (-2)) hx hb dX11_means_23 (by decide) ?_
              subst hAe
              rw [hQ]
              exact W.iret (v := (-2)) hx hb hr (fun t ht hW => ⟨⟨(-2), (), rfl, (mm_wk mm_km2 (by decide)), by rw [ht]; exact hP, hK.warm hW, hD⟩, hS.F ht⟩) hS.2.2 dX11_means_25
          · refine lv_if_ne (tgt := 26) hx hb dX11_means_20 (by decide) (fun c18 => ?_) (fun c18 => ?_)
            · refine lv_aload_n hx hb dX11_means_26 rfl (lv_at hl 0 rfl) ?_
              refine va_get (D := G) (ci := 11) (v := .ref a_3) (C := RX11) (T := TX11) (N := 11) hx hb hts (mm_i inlX11) hown hK.1 hP 0 rfl rfl 2 (by decide) (mm_h hts mm_w24) (fun _ h9 => h9) rfl dX11_means_27 ?_
              refine lv_iload_n hx hb dX11_means_30 rfl (lv_at hl 1 rfl) ?_
              refine lv_iload_n hx hb dX11_means_31 rfl (lv_at hl 2 rfl) ?_
              refine lv_iload_n hx hb dX11_means_32 rfl (lv_at hl 3 rfl) ?_
              refine mm_finir (va_runV (As := [.int i_0, .int i_1, .int i_2]) (rest := []) ⟨hx, hb, hml, hown, hts⟩ (K355_X10_meaning l G cy H.size a_3 i_0 i_1 i_2 a_12 a_13 i_3 i_4 i_5 i_6 i_7 i_8 i_9 i_10 a_14 a_15 a_16 a_17 a_18 a_19 a_20 a_21 a_22 a_23 f_0 a_24 a_25 a_26 a_27 a_28 i_11 i_12 i_13 f_1 a_29 a_30 i_14 i_15 i_16 f_2 a_31 a_32 i_17 i_18 i_19 f_3 w3 (mm_wk w9 (by decide)) w15 h2 h3 h4 h5 h6 h7 h8) (cwV 3 hts (mm_gV mm_w665 mm_w666 mm_w667 mm_w23 mm_w668) rfl rfl rfl hd_X10_meaning ⟨by rw [hRf]; exact Nat.le_of_ble_eq_true rfl, by rw [hRl]; exact Nat.le_of_ble_eq_true rfl⟩) (mm_preV hK hZ hS hA hP hD [1, 2, 3, 4, 5, 6, 7, 8, 9, 10] rfl rfl 1 rfl rfl rfl) rfl rfl hl.1 rfl (lv_room (Nat.le_of_ble_eq_true rfl)) dX11_means_33 ⟨by rw [hRc]; exact Nat.le_of_ble_eq_true rfl, by rw [hRs]; exact Nat.le_of_ble_eq_true rfl⟩) hP hD hS hA [1, 2, 3, 4, 5, 6, 7, 8, 9, 10] rfl (fun _ => rfl) ?_
              clear hP hD hS
              clear H locs
              intro v19 _u H locs hw hP hD hS
              have w20 := hw
              subst hAe
              rw [hQ]
              exact W.iret (v := v19) hx hb hr (fun t ht hW => ⟨⟨v19, (), rfl, (mm_wk w20 (by decide)), by rw [ht]; exact hP, hK.warm hW, hD⟩, hS.F ht⟩) hS.2.2 dX11_means_36
            · exact mm_eqN c18.symm mm_k0 mm_k1 (by decide)

set_option maxHeartbeats 4000000 in
set_option maxRecDepth 100000 in
theorem K357_X11_isMeaning (l : Launch) (G : va_G) (cy : Nat → ClassId) (sz : Nat) (a_0 : Nat) (i_0 : Int32) (a_1 : Nat) (a_2 : Nat) (a_3 : Nat) (a_4 : Nat) (a_5 : Nat) (a_6 : Nat) (a_7 : Nat) (a_8 : Nat) (a_9 : Nat) (a_10 : Nat) (a_11 : Nat) (a_12 : Nat) (a_13 : Nat) (i_1 : Int32) (i_2 : Int32) (i_3 : Int32) (i_4 : Int32) (i_5 : Int32) (i_6 : Int32) (i_7 : Int32) (i_8 : Int32) (a_14 : Nat) (a_15 : Nat) (a_16 : Nat) (a_17 : Nat) (a_18 : Nat) (a_19 : Nat) (a_20 : Nat) (a_21 : Nat) (a_22 : Nat) (a_23 : Nat) (h0 : mm_rg i_5 0 9)  : mm_CI l yX11_isMeaning (mm_ws yX11_isMeaning cX11_isMeaning 2 (some .boolean)) ({ frames := 0, cells := 0, slots := 0, locals := 0 } : Room) G cy sz [(a_0, .inr (11, [.ref a_1, .ref a_2, .ref a_3, .ref a_4, .ref a_5, .ref a_6, .ref a_7, .ref a_8, .ref a_9, .ref a_10, .ref a_11])), (a_3, .inr (10, [.ref a_12, .ref a_13])), (a_12, .inr (0, [.int i_1, .int i_2, .int i_3, .int i_4, .int i_5, .int i_6, .int i_7, .int i_8, .ref a_14, .ref a_15, .ref a_16, .ref a_17, .ref a_18, .ref a_19, .ref a_20, .ref a_21, .ref a_22, .ref a_23]))] [.ref a_0, .int i_0] (fun u : Unit => [(a_0, .inr (11, [.ref a_1, .ref a_2, .ref a_3, .ref a_4, .ref a_5, .ref a_6, .ref a_7, .ref a_8, .ref a_9, .ref a_10, .ref a_11])), (a_3, .inr (10, [.ref a_12, .ref a_13])), (a_12, .inr (0, [.int i_1, .int i_2, .int i_3, .int i_4, .int i_5, .int i_6, .int i_7, .int i_8, .ref a_14, .ref a_15, .ref a_16, .ref a_17, .ref a_18, .ref a_19, .ref a_20, .ref a_21, .ref a_22, .ref a_23]))]) (fun (r : Int32) (u : Unit) => ((0 = r ∧ mm_rg i_0 (-2147483648) 2147483647) ∨ (1 = r ∧ mm_rg i_0 0 9))) 0 0 := by
  refine mm_begin (lv := [(0, .ref a_0), (1, .int i_0)]) (by decide) (Nat.le_of_ble_eq_true rfl) rfl ?_
  intro p e s m below meth c A ls R args Q H locs hRe hQ hAe hx hb hr hlocks hml hown hnm hts hsz hA hS hP hK hD hZ hl
  have hRf : R.frames = 0 := by rw [hRe]
  have hRl : R.locals = 0 := by rw [hRe]
  have hRc : R.cells = 0 := by rw [hRe]
  have hRs : R.slots = 0 := by rw [hRe]
  refine lv_iload_n hx hb dX11_isMeaning_0 rfl (lv_at hl 1 rfl) ?_
  refine lv_if_lt (tgt := 22) hx hb dX11_isMeaning_1 (by decide) (fun c1 => ?_) (fun c1 => ?_)
  · have q2 := mm_ltL (h := (-1)) (mm_lt c1) (mm_top i_0) mm_k0 (by decide)
    refine lv_iconst (v := 0) hx hb dX11_isMeaning_22 (by decide) ?_
    subst hAe
    rw [hQ]
    exact W.zret (v := 0) hx hb hr rfl (fun t ht hW => ⟨⟨0, (), rfl, (Or.inl ⟨rfl, (mm_wk q2 (by decide))⟩), by rw [ht]; exact hP, hK.warm hW, hD⟩, hS.F ht⟩) hS.2.2 dX11_isMeaning_23
  · have q3 := mm_leR (mm_nlt c1) mm_k0 (mm_top i_0)
    refine lv_iload_n hx hb dX11_isMeaning_4 rfl (lv_at hl 1 rfl) ?_
    refine lv_aload_n hx hb dX11_isMeaning_5 rfl (lv_at hl 0 rfl) ?_
    refine va_get (D := G) (ci := 11) (v := .ref a_3) (C := RX11) (T := TX11) (N := 11) hx hb hts (mm_i inlX11) hown hK.1 hP 0 rfl rfl 2 (by decide) (mm_h hts mm_w24) (fun _ h9 => h9) rfl dX11_isMeaning_6 ?_
    refine va_get (D := G) (ci := 10) (v := .ref a_12) (C := RX10) (T := TX10) (N := 2) hx hb hts (mm_i inlX10) hown hK.1 hP 1 rfl rfl 0 (by decide) (mm_h hts mm_w199) (fun _ h9 => h9) rfl dX11_isMeaning_9 ?_
    refine va_get (D := G) (ci := 0) (v := .int i_5) (C := RX0) (T := TX0) (N := 18) hx hb hts (mm_i inlX0) hown hK.1 hP 2 rfl rfl 4 (by decide) (mm_h hts mm_w580) (fun _ h9 => h9) rfl dX11_isMeaning_12 ?_
    refine lv_icmp_gt (tgt := 22) hx hb dX11_isMeaning_15 (by decide) (fun c4 => ?_) (fun c4 => ?_)
    · have q5 := mm_ltR (lo := 1) (mm_lt c4) h0 q3 (by decide)
      refine lv_iconst (v := 0) hx hb dX11_isMeaning_22 (by decide) ?_
      subst hAe
      rw [hQ]
      exact W.zret (v := 0) hx hb hr rfl (fun t ht hW => ⟨⟨0, (), rfl, (Or.inl ⟨rfl, (mm_wk q5 (by decide))⟩), by rw [ht]; exact hP, hK.warm hW, hD⟩, hS.F ht⟩) hS.2.2 dX11_isMeaning_23
    · have q6 := mm_leL (mm_nlt c4) q3 h0
      refine lv_iconst (v := 1) hx hb dX11_isMeaning_18 (by decide) ?_
      refine lv_goto (tgt := 23) hx hb dX11_isMeaning_19 (by decide) ?_
      subst hAe
      rw [hQ]
      exact W.zret (v := 1) hx hb hr rfl (fun t ht hW => ⟨⟨1, (), rfl, (Or.inr ⟨rfl, q6⟩), by rw [ht]; exact hP, hK.warm hW, hD⟩, hS.F ht⟩) hS.2.2 dX11_isMeaning_23

set_option maxHeartbeats 4000000 in
set_option maxRecDepth 100000 in
theorem K358_X10_wordFor (l : Launch) (G : va_G) (cy : Nat → ClassId) (sz : Nat) (a_0 : Nat) (i_0 : Int32) (i_1 : Int32) (i_2 : Int32) (a_1 : Nat) (a_2 : Nat) (i_3 : Int32) (i_4 : Int32) (i_5 : Int32) (i_6 : Int32) (i_7 : Int32) (i_8 : Int32) (i_9 : Int32) (i_10 : Int32) (a_3 : Nat) (a_4 : Nat) (a_5 : Nat) (a_6 : Nat) (a_7 : Nat) (a_8 : Nat) (a_9 : Nat) (a_10 : Nat) (a_11 : Nat) (a_12 : Nat) (f_0 : Nat → Int32) (a_13 : Nat) (a_14 : Nat) (a_15 : Nat) (a_16 : Nat) (a_17 : Nat) (i_11 : Int32) (i_12 : Int32) (i_13 : Int32) (f_1 : Nat → Int32) (a_18 : Nat) (a_19 : Nat) (i_14 : Int32) (i_15 : Int32) (i_16 : Int32) (f_2 : Nat → Int32) (a_20 : Nat) (a_21 : Nat) (i_17 : Int32) (i_18 : Int32) (i_19 : Int32) (f_3 : Nat → Int32) (h0 : mm_rg i_0 0 2) (h1 : mm_rg i_1 0 2147483647) (h2 : mm_rg i_2 0 9) (h3 : mm_rg i_7 0 9) (h4 : mm_ar f_0 0 9) (h5 : mm_rg i_13 (-2147483648) 210) (h6 : mm_ar f_1 0 9) (h7 : mm_rg i_16 (-2147483648) 210) (h8 : mm_ar f_2 0 9) (h9 : mm_rg i_19 (-2147483648) 210) (h10 : mm_ar f_3 0 9)  : mm_CI l yX10_wordFor (mm_ws yX10_wordFor cX10_wordFor 6 (some .int)) ({ frames := 2, cells := 0, slots := 0, locals := 45 } : Room) G cy sz [(a_0, .inr (10, [.ref a_1, .ref a_2])), (a_1, .inr (0, [.int i_3, .int i_4, .int i_5, .int i_6, .int i_7, .int i_8, .int i_9, .int i_10, .ref a_3, .ref a_4, .ref a_5, .ref a_6, .ref a_7, .ref a_8, .ref a_9, .ref a_10, .ref a_11, .ref a_12])), (a_9, .inl (cy 1, 30, .inl f_0)), (a_2, .inl (cy 5, 3, .inr (.inr (.inr (.inr (va_up (va_up (va_up (fun _ => none) 0 (some a_13)) 1 (some a_14)) 2 (some a_15))))))), (a_13, .inr (1, [.ref a_16, .ref a_17, .int i_11, .int i_12, .int i_13])), (a_16, .inl (cy 1, 2100, .inl f_1)), (a_14, .inr (1, [.ref a_18, .ref a_19, .int i_14, .int i_15, .int i_16])), (a_18, .inl (cy 1, 2100, .inl f_2)), (a_15, .inr (1, [.ref a_20, .ref a_21, .int i_17, .int i_18, .int i_19])), (a_20, .inl (cy 1, 2100, .inl f_3))] [.ref a_0, .int i_0, .int i_1, .int i_2] (fun u : Unit => [(a_0, .inr (10, [.ref a_1, .ref a_2])), (a_1, .inr (0, [.int i_3, .int i_4, .int i_5, .int i_6, .int i_7, .int i_8, .int i_9, .int i_10, .ref a_3, .ref a_4, .ref a_5, .ref a_6, .ref a_7, .ref a_8, .ref a_9, .ref a_10, .ref a_11, .ref a_12])), (a_9, .inl (cy 1, 30, .inl f_0)), (a_2, .inl (cy 5, 3, .inr (.inr (.inr (.inr (va_up (va_up (va_up (fun _ => none) 0 (some a_13)) 1 (some a_14)) 2 (some a_15))))))), (a_13, .inr (1, [.ref a_16, .ref a_17, .int i_11, .int i_12, .int i_13])), (a_16, .inl (cy 1, 2100, .inl f_1)), (a_14, .inr (1, [.ref a_18, .ref a_19, .int i_14, .int i_15, .int i_16])), (a_18, .inl (cy 1, 2100, .inl f_2)), (a_15, .inr (1, [.ref a_20, .ref a_21, .int i_17, .int i_18, .int i_19])), (a_20, .inl (cy 1, 2100, .inl f_3))]) (fun (r : Int32) (u : Unit) => mm_rg r 0 9) 0 0 := by
  refine mm_begin (lv := [(0, .ref a_0), (1, .int i_0), (2, .int i_1), (3, .int i_2)]) (by decide) (Nat.le_of_ble_eq_true rfl) rfl ?_
  intro p e s m below meth c A ls R args Q H locs hRe hQ hAe hx hb hr hlocks hml hown hnm hts hsz hA hS hP hK hD hZ hl
  have hRf : R.frames = 2 := by rw [hRe]
  have hRl : R.locals = 45 := by rw [hRe]
  have hRc : R.cells = 0 := by rw [hRe]
  have hRs : R.slots = 0 := by rw [hRe]
  refine lv_iconst (v := 0) hx hb dX10_wordFor_0 (by decide) ?_
  refine lv_istore (lv' := [(4, .int 0), (0, .ref a_0), (1, .int i_0), (2, .int i_1), (3, .int i_2)]) hx hb dX10_wordFor_1 hl (by decide) rfl ?_
  clear hl
  clear ls
  intro ls hl
  refine lv_iconst (v := 0) hx hb dX10_wordFor_3 (by decide) ?_
  refine lv_istore (lv' := [(5, .int 0), (4, .int 0), (0, .ref a_0), (1, .int i_0), (2, .int i_1), (3, .int i_2)]) hx hb dX10_wordFor_4 hl (by decide) rfl ?_
  clear hl
  clear ls
  intro ls hl
  have L6_101 : ∀ (n : Nat) (x6_5_100 : Int32) (x6_4_101 : Int32), mm_rg x6_5_100 0 10 → mm_rg x6_4_101 0 9 → (10 - x6_5_100.toInt).toNat < n → ∀ (H : Heap) (locs : List Loc), va_P G vwCl [(a_0, .inr (10, [.ref a_1, .ref a_2])), (a_1, .inr (0, [.int i_3, .int i_4, .int i_5, .int i_6, .int i_7, .int i_8, .int i_9, .int i_10, .ref a_3, .ref a_4, .ref a_5, .ref a_6, .ref a_7, .ref a_8, .ref a_9, .ref a_10, .ref a_11, .ref a_12])), (a_9, .inl (cy 1, 30, .inl f_0)), (a_2, .inl (cy 5, 3, .inr (.inr (.inr (.inr (va_up (va_up (va_up (fun _ => none) 0 (some a_13)) 1 (some a_14)) 2 (some a_15))))))), (a_13, .inr (1, [.ref a_16, .ref a_17, .int i_11, .int i_12, .int i_13])), (a_16, .inl (cy 1, 2100, .inl f_1)), (a_14, .inr (1, [.ref a_18, .ref a_19, .int i_14, .int i_15, .int i_16])), (a_18, .inl (cy 1, 2100, .inl f_2)), (a_15, .inr (1, [.ref a_20, .ref a_21, .int i_17, .int i_18, .int i_19])), (a_20, .inl (cy 1, 2100, .inl f_3))] H → va_D A [(a_0, .inr (10, [.ref a_1, .ref a_2])), (a_1, .inr (0, [.int i_3, .int i_4, .int i_5, .int i_6, .int i_7, .int i_8, .int i_9, .int i_10, .ref a_3, .ref a_4, .ref a_5, .ref a_6, .ref a_7, .ref a_8, .ref a_9, .ref a_10, .ref a_11, .ref a_12])), (a_9, .inl (cy 1, 30, .inl f_0)), (a_2, .inl (cy 5, 3, .inr (.inr (.inr (.inr (va_up (va_up (va_up (fun _ => none) 0 (some a_13)) 1 (some a_14)) 2 (some a_15))))))), (a_13, .inr (1, [.ref a_16, .ref a_17, .int i_11, .int i_12, .int i_13])), (a_16, .inl (cy 1, 2100, .inl f_1)), (a_14, .inr (1, [.ref a_18, .ref a_19, .int i_14, .int i_15, .int i_16])), (a_18, .inl (cy 1, 2100, .inl f_2)), (a_15, .inr (1, [.ref a_20, .ref a_21, .int i_17, .int i_18, .int i_19])), (a_20, .inl (cy 1, 2100, .inl f_3))] → va_S A s.heap H locs → ∀ (ls : Array Slot), lv_has ls 6 [(5, .int x6_5_100), (4, .int x6_4_101), (0, .ref a_0), (1, .int i_0), (2, .int i_1), (3, .int i_2)] → W p l e R s m args below meth c H locs 0 0 Q (F0 m 6 ls []) := by
    intro n
    induction n with
    | zero => intro x6_5_100 x6_4_101 rx6_5_100 rx6_4_101 hm; exact absurd hm (Nat.not_lt_zero _)
    | succ n ih6 =>
      intro x6_5_100 x6_4_101 rx6_5_100 rx6_4_101 hm6 H locs hP hD hS ls hl
      refine lv_iload hx hb dX10_wordFor_6 (lv_at hl 0 rfl) ?_
      refine lv_aload_n hx hb dX10_wordFor_8 rfl (lv_at hl 2 rfl) ?_
      refine va_get (D := G) (ci := 10) (v := .ref a_1) (C := RX10) (T := TX10) (N := 2) hx hb hts (mm_i inlX10) hown hK.1 hP 0 rfl rfl 0 (by decide) (mm_h hts mm_w87) (fun _ h9 => h9) rfl dX10_wordFor_9 ?_
      refine va_get (D := G) (ci := 0) (v := .int i_7) (C := RX0) (T := TX0) (N := 18) hx hb hts (mm_i inlX0) hown hK.1 hP 1 rfl rfl 4 (by decide) (mm_h hts mm_w729) (fun _ h9 => h9) rfl dX10_wordFor_12 ?_
      refine lv_icmp_gt (tgt := 40) hx hb dX10_wordFor_15 (by decide) (fun c103 => ?_) (fun c103 => ?_)
      · have q104 := mm_ltR (lo := 1) (mm_lt c103) h3 rx6_5_100 (by decide)
        refine lv_iload hx hb dX10_wordFor_40 (lv_at hl 1 rfl) ?_
        subst hAe
        rw [hQ]
        exact W.iret (v := x6_4_101) hx hb hr (fun t ht hW => ⟨⟨x6_4_101, (), rfl, rx6_4_101, by rw [ht]; exact hP, hK.warm hW, hD⟩, hS.F ht⟩) hS.2.2 dX10_wordFor_42
      · have q105 := mm_leL (mm_nlt c103) rx6_5_100 h3
        refine lv_aload_n hx hb dX10_wordFor_18 rfl (lv_at hl 2 rfl) ?_
        refine lv_iload_n hx hb dX10_wordFor_19 rfl (lv_at hl 3 rfl) ?_
        refine lv_iload_n hx hb dX10_wordFor_20 rfl (lv_at hl 4 rfl) ?_
        refine lv_iload hx hb dX10_wordFor_21 (lv_at hl 0 rfl) ?_
        refine mm_finir (va_runV (As := [.int i_0, .int i_1, .int x6_5_100]) (rest := []) ⟨hx, hb, hml, hown, hts⟩ (K355_X10_meaning l G cy H.size a_0 i_0 i_1 x6_5_100 a_1 a_2 i_3 i_4 i_5 i_6 i_7 i_8 i_9 i_10 a_3 a_4 a_5 a_6 a_7 a_8 a_9 a_10 a_11 a_12 f_0 a_13 a_14 a_15 a_16 a_17 i_11 i_12 i_13 f_1 a_18 a_19 i_14 i_15 i_16 f_2 a_20 a_21 i_17 i_18 i_19 f_3 h0 h1 q105 h4 h5 h6 h7 h8 h9 h10) (cwV 3 hts (mm_gV mm_w730 mm_w666 mm_w667 mm_w23 mm_w668) rfl rfl rfl hd_X10_meaning ⟨by rw [hRf]; exact Nat.le_of_ble_eq_true rfl, by rw [hRl]; exact Nat.le_of_ble_eq_true rfl⟩) (mm_preV hK hZ hS hA hP hD [0, 1, 2, 3, 4, 5, 6, 7, 8, 9] rfl rfl 0 rfl rfl rfl) rfl rfl hl.1 rfl (lv_room (Nat.le_of_ble_eq_true rfl)) dX10_wordFor_23 ⟨by rw [hRc]; exact Nat.le_of_ble_eq_true rfl, by rw [hRs]; exact Nat.le_of_ble_eq_true rfl⟩) hP hD hS hA [0, 1, 2, 3, 4, 5, 6, 7, 8, 9] rfl (fun _ => rfl) ?_
        clear hP hD hS
        clear H locs
        intro v106 _u H locs hw hP hD hS
        have w107 := hw
        refine lv_iload_n hx hb dX10_wordFor_26 rfl (lv_at hl 5 rfl) ?_
        refine lv_icmp_ne (tgt := 34) hx hb dX10_wordFor_27 (by decide) (fun c108 => ?_) (fun c108 => ?_)
        · obtain ⟨v109, ev109⟩ : ∃ y : Int32, y = x6_5_100 + 1 := ⟨_, rfl⟩
          refine lv_iinc (v := v109) (lv' := [(5, .int v109), (4, .int x6_4_101), (0, .ref a_0), (1, .int i_0), (2, .int i_1), (3, .int i_2)]) hx hb dX10_wordFor_34 hl (k := 0) rfl (by rw [ev109]; rfl) (by decide) rfl ?_
          clear hl
          clear ls
          intro ls hl
          have rv109 : mm_rg v109 1 10 := mm_add ev109 q105 mm_k1 (by decide) (by decide)
          have tv109 := mm_addEc ev109 q105 mm_k1 (by decide) (k := 1) (by decide)
          refine lv_goto (tgt := 6) hx hb dX10_wordFor_37 (by decide) ?_
          exact ih6 v109 x6_4_101 (mm_wk rv109 (by decide)) rx6_4_101 (mm_mu hm6 tv109 (by decide) (rv109).2 (by decide)) H locs hP hD hS ls (lv_sub hl [0, 1, 2, 3, 4, 5] rfl)
        · refine lv_iload hx hb dX10_wordFor_30 (lv_at hl 0 rfl) ?_
          refine lv_istore (lv' := [(4, .int x6_5_100), (5, .int x6_5_100), (0, .ref a_0), (1, .int i_0), (2, .int i_1), (3, .int i_2)]) hx hb dX10_wordFor_32 hl (by decide) rfl ?_
          clear hl
          clear ls
          intro ls hl
          obtain ⟨v110, ev110⟩ : ∃ y : Int32, y = x6_5_100 + 1 := ⟨_, rfl⟩
          refine lv_iinc (v := v110) (lv' := [(5, .int v110), (4, .int x6_5_100), (0, .ref a_0), (1, .int i_0), (2, .int i_1), (3, .int i_2)]) hx hb dX10_wordFor_34 hl (k := 1) rfl (by rw [ev110]; rfl) (by decide) rfl ?_
          clear hl
          clear ls
          intro ls hl
          have rv110 : mm_rg v110 1 10 := mm_add ev110 q105 mm_k1 (by decide) (by decide)
          have tv110 := mm_addEc ev110 q105 mm_k1 (by decide) (k := 1) (by decide)
          refine lv_goto (tgt := 6) hx hb dX10_wordFor_37 (by decide) ?_
          exact ih6 v110 x6_5_100 (mm_wk rv110 (by decide)) q105 (mm_mu hm6 tv110 (by decide) (rv110).2 (by decide)) H locs hP hD hS ls (lv_sub hl [0, 1, 2, 3, 4, 5] rfl)
  exact L6_101 _ 0 0 (mm_wk mm_k0 (by decide)) (mm_wk mm_k0 (by decide)) (Nat.lt_succ_self _) H locs hP hD hS ls (lv_sub hl [0, 1, 2, 3, 4, 5] rfl)

set_option maxHeartbeats 4000000 in
set_option maxRecDepth 100000 in
theorem K359_X11_says (l : Launch) (G : va_G) (cy : Nat → ClassId) (sz : Nat) (a_0 : Nat) (i_0 : Int32) (i_1 : Int32) (i_2 : Int32) (a_1 : Nat) (a_2 : Nat) (a_3 : Nat) (a_4 : Nat) (a_5 : Nat) (a_6 : Nat) (a_7 : Nat) (a_8 : Nat) (a_9 : Nat) (a_10 : Nat) (a_11 : Nat) (a_12 : Nat) (a_13 : Nat) (i_3 : Int32) (i_4 : Int32) (i_5 : Int32) (i_6 : Int32) (i_7 : Int32) (i_8 : Int32) (i_9 : Int32) (i_10 : Int32) (a_14 : Nat) (a_15 : Nat) (a_16 : Nat) (a_17 : Nat) (a_18 : Nat) (a_19 : Nat) (a_20 : Nat) (a_21 : Nat) (a_22 : Nat) (a_23 : Nat) (f_0 : Nat → Int32) (a_24 : Nat) (a_25 : Nat) (a_26 : Nat) (a_27 : Nat) (a_28 : Nat) (i_11 : Int32) (i_12 : Int32) (i_13 : Int32) (f_1 : Nat → Int32) (a_29 : Nat) (a_30 : Nat) (i_14 : Int32) (i_15 : Int32) (i_16 : Int32) (f_2 : Nat → Int32) (a_31 : Nat) (a_32 : Nat) (i_17 : Int32) (i_18 : Int32) (i_19 : Int32) (f_3 : Nat → Int32) (h0 : mm_rg i_7 0 9) (h1 : mm_rg i_8 0 3) (h2 : mm_ar f_0 0 9) (h3 : mm_rg i_13 (-2147483648) 210) (h4 : mm_ar f_1 0 9) (h5 : mm_rg i_16 (-2147483648) 210) (h6 : mm_ar f_2 0 9) (h7 : mm_rg i_19 (-2147483648) 210) (h8 : mm_ar f_3 0 9)  : mm_CI l yX11_says (mm_ws yX11_says cX11_says 4 (some .int)) ({ frames := 3, cells := 0, slots := 0, locals := 70 } : Room) G cy sz [(a_0, .inr (11, [.ref a_1, .ref a_2, .ref a_3, .ref a_4, .ref a_5, .ref a_6, .ref a_7, .ref a_8, .ref a_9, .ref a_10, .ref a_11])), (a_3, .inr (10, [.ref a_12, .ref a_13])), (a_12, .inr (0, [.int i_3, .int i_4, .int i_5, .int i_6, .int i_7, .int i_8, .int i_9, .int i_10, .ref a_14, .ref a_15, .ref a_16, .ref a_17, .ref a_18, .ref a_19, .ref a_20, .ref a_21, .ref a_22, .ref a_23])), (a_20, .inl (cy 1, 30, .inl f_0)), (a_13, .inl (cy 5, 3, .inr (.inr (.inr (.inr (va_up (va_up (va_up (fun _ => none) 0 (some a_24)) 1 (some a_25)) 2 (some a_26))))))), (a_24, .inr (1, [.ref a_27, .ref a_28, .int i_11, .int i_12, .int i_13])), (a_27, .inl (cy 1, 2100, .inl f_1)), (a_25, .inr (1, [.ref a_29, .ref a_30, .int i_14, .int i_15, .int i_16])), (a_29, .inl (cy 1, 2100, .inl f_2)), (a_26, .inr (1, [.ref a_31, .ref a_32, .int i_17, .int i_18, .int i_19])), (a_31, .inl (cy 1, 2100, .inl f_3))] [.ref a_0, .int i_0, .int i_1, .int i_2] (fun u : Unit => [(a_0, .inr (11, [.ref a_1, .ref a_2, .ref a_3, .ref a_4, .ref a_5, .ref a_6, .ref a_7, .ref a_8, .ref a_9, .ref a_10, .ref a_11])), (a_3, .inr (10, [.ref a_12, .ref a_13])), (a_12, .inr (0, [.int i_3, .int i_4, .int i_5, .int i_6, .int i_7, .int i_8, .int i_9, .int i_10, .ref a_14, .ref a_15, .ref a_16, .ref a_17, .ref a_18, .ref a_19, .ref a_20, .ref a_21, .ref a_22, .ref a_23])), (a_20, .inl (cy 1, 30, .inl f_0)), (a_13, .inl (cy 5, 3, .inr (.inr (.inr (.inr (va_up (va_up (va_up (fun _ => none) 0 (some a_24)) 1 (some a_25)) 2 (some a_26))))))), (a_24, .inr (1, [.ref a_27, .ref a_28, .int i_11, .int i_12, .int i_13])), (a_27, .inl (cy 1, 2100, .inl f_1)), (a_25, .inr (1, [.ref a_29, .ref a_30, .int i_14, .int i_15, .int i_16])), (a_29, .inl (cy 1, 2100, .inl f_2)), (a_26, .inr (1, [.ref a_31, .ref a_32, .int i_17, .int i_18, .int i_19])), (a_31, .inl (cy 1, 2100, .inl f_3))]) (fun (r : Int32) (u : Unit) => mm_rg r (-2) 9) 0 0 := by
  refine mm_begin (lv := [(0, .ref a_0), (1, .int i_0), (2, .int i_1), (3, .int i_2)]) (by decide) (Nat.le_of_ble_eq_true rfl) rfl ?_
  intro p e s m below meth c A ls R args Q H locs hRe hQ hAe hx hb hr hlocks hml hown hnm hts hsz hA hS hP hK hD hZ hl
  have hRf : R.frames = 3 := by rw [hRe]
  have hRl : R.locals = 70 := by rw [hRe]
  have hRc : R.cells = 0 := by rw [hRe]
  have hRs : R.slots = 0 := by rw [hRe]
  refine lv_aload_n hx hb dX11_says_0 rfl (lv_at hl 0 rfl) ?_
  refine lv_iload_n hx hb dX11_says_1 rfl (lv_at hl 1 rfl) ?_
  refine mm_finir (va_runV (As := [.int i_0]) (rest := []) ⟨hx, hb, hml, hown, hts⟩ (K350_X11_isLand l G cy H.size a_0 i_0 a_1 a_2 a_3 a_4 a_5 a_6 a_7 a_8 a_9 a_10 a_11 a_12 a_13 i_3 i_4 i_5 i_6 i_7 i_8 i_9 i_10 a_14 a_15 a_16 a_17 a_18 a_19 a_20 a_21 a_22 a_23 h1) (cwV 1 hts (mm_gV mm_w626 mm_w627 mm_w628 mm_w2 mm_w629) rfl rfl rfl hd_X11_isLand ⟨by rw [hRf]; exact Nat.le_of_ble_eq_true rfl, by rw [hRl]; exact Nat.le_of_ble_eq_true rfl⟩) (mm_preV hK hZ hS hA hP hD [0, 1, 2] rfl rfl 0 rfl rfl rfl) rfl rfl hl.1 rfl (lv_room (Nat.le_of_ble_eq_true rfl)) dX11_says_2 ⟨by rw [hRc]; exact Nat.le_of_ble_eq_true rfl, by rw [hRs]; exact Nat.le_of_ble_eq_true rfl⟩) hP hD hS hA [0, 1, 2] rfl (fun _ => rfl) ?_
  clear hP hD hS
  clear H locs
  intro v1 _u H locs hw hP hD hS
  rcases hw with ⟨rfl, w2⟩ | ⟨rfl, w3⟩
  · refine lv_if_eq (tgt := 23) hx hb dX11_says_5 (by decide) (fun c4 => ?_) (fun c4 => ?_)
    · refine lv_bipush (v := (-2)) hx hb dX11_says_23 (by decide) ?_
      subst hAe
      rw [hQ]
      exact W.iret (v := (-2)) hx hb hr (fun t ht hW => ⟨⟨(-2), (), rfl, (mm_wk mm_km2 (by decide)), by rw [ht]; exact hP, hK.warm hW, hD⟩, hS.F ht⟩) hS.2.2 dX11_says_25
    · have q5 := mm_neL (lo := 1) (mm_ne c4) mm_k0 mm_k0 (by decide) (by decide)
      exact mm_no q5 (by decide)
  · refine lv_if_eq (tgt := 23) hx hb dX11_says_5 (by decide) (fun c6 => ?_) (fun c6 => ?_)
    · exact mm_eqN c6.symm mm_k0 mm_k1 (by decide)
    · refine lv_iload_n hx hb dX11_says_8 rfl (lv_at hl 2 rfl) ?_
      refine mm_finir (va_runS (As := [.int i_1]) (rest := []) ⟨hx, hb, hml, hown, hts⟩ (K353_X11_isDay l G cy H.size i_1 ) (va_cwS 1 hts (mm_gS mm_w661 mm_w662 mm_w2 mm_w663) rfl rfl rfl hs_X11_isDay ⟨by rw [hRf]; exact Nat.le_of_ble_eq_true rfl, by rw [hRl]; exact Nat.le_of_ble_eq_true rfl⟩) (mm_preS hK hZ hS hA hP hD [] rfl rfl) rfl rfl hl.1 rfl (lv_room (Nat.le_of_ble_eq_true rfl)) dX11_says_9 ⟨by rw [hRc]; exact Nat.le_of_ble_eq_true rfl, by rw [hRs]; exact Nat.le_of_ble_eq_true rfl⟩) hP hD hS hA [] rfl (fun _ => rfl) ?_
      clear hP hD hS
      clear H locs
      intro v7 _u H locs hw hP hD hS
      rcases hw with ⟨rfl, w8⟩ | ⟨rfl, w9⟩
      · refine lv_if_eq (tgt := 23) hx hb dX11_says_12 (by decide) (fun c10 => ?_) (fun c10 => ?_)
        · refine lv_bipush (v := (-2)) hx hb dX11_says_23 (by decide) ?_
          subst hAe
          rw [hQ]
          exact W.iret (v := (-2)) hx hb hr (fun t ht hW => ⟨⟨(-2), (), rfl, (mm_wk mm_km2 (by decide)), by rw [ht]; exact hP, hK.warm hW, hD⟩, hS.F ht⟩) hS.2.2 dX11_says_25
        · have q11 := mm_neL (lo := 1) (mm_ne c10) mm_k0 mm_k0 (by decide) (by decide)
          exact mm_no q11 (by decide)
      · refine lv_if_eq (tgt := 23) hx hb dX11_says_12 (by decide) (fun c12 => ?_) (fun c12 => ?_)
        · exact mm_eqN c12.symm mm_k0 mm_k1 (by decide)
        · refine lv_aload_n hx hb dX11_says_15 rfl (lv_at hl 0 rfl) ?_
          refine lv_iload_n hx hb dX11_says_16 rfl (lv_at hl 3 rfl) ?_
          refine mm_finir (va_runV (As := [.int i_2]) (rest := []) ⟨hx, hb, hml, hown, hts⟩ (K357_X11_isMeaning l G cy H.size a_0 i_2 a_1 a_2 a_3 a_4 a_5 a_6 a_7 a_8 a_9 a_10 a_11 a_12 a_13 i_3 i_4 i_5 i_6 i_7 i_8 i_9 i_10 a_14 a_15 a_16 a_17 a_18 a_19 a_20 a_21 a_22 a_23 h0) (cwV 1 hts (mm_gV mm_w721 mm_w722 mm_w723 mm_w2 mm_w724) rfl rfl rfl hd_X11_isMeaning ⟨by rw [hRf]; exact Nat.le_of_ble_eq_true rfl, by rw [hRl]; exact Nat.le_of_ble_eq_true rfl⟩) (mm_preV hK hZ hS hA hP hD [0, 1, 2] rfl rfl 0 rfl rfl rfl) rfl rfl hl.1 rfl (lv_room (Nat.le_of_ble_eq_true rfl)) dX11_says_17 ⟨by rw [hRc]; exact Nat.le_of_ble_eq_true rfl, by rw [hRs]; exact Nat.le_of_ble_eq_true rfl⟩) hP hD hS hA [0, 1, 2] rfl (fun _ => rfl) ?_
          clear hP hD hS
          clear H locs
          intro v13 _u H locs hw hP hD hS
          rcases hw with ⟨rfl, w14⟩ | ⟨rfl, w15⟩
          · refine lv_if_ne (tgt := 26) hx hb dX11_says_20 (by decide) (fun c16 => ?_) (fun c16 => ?_)
            · have q17 := mm_neL (lo := 1) (mm_ne c16) mm_k0 mm_k0 (by decide) (by decide)
              exact mm_no q17 (by decide)
            · refine lv_bipush (v := (-2)) hx hb dX11_says_23 (by decide) ?_
              subst hAe
              rw [hQ]
              exact W.iret (v := (-2)) hx hb hr (fun t ht hW => ⟨⟨(-2), (), rfl, (mm_wk mm_km2 (by decide)), by rw [ht]; exact hP, hK.warm hW, hD⟩, hS.F ht⟩) hS.2.2 dX11_says_25
          · refine lv_if_ne (tgt := 26) hx hb dX11_says_20 (by decide) (fun c18 => ?_) (fun c18 => ?_)
            · refine lv_aload_n hx hb dX11_says_26 rfl (lv_at hl 0 rfl) ?_
              refine va_get (D := G) (ci := 11) (v := .ref a_3) (C := RX11) (T := TX11) (N := 11) hx hb hts (mm_i inlX11) hown hK.1 hP 0 rfl rfl 2 (by decide) (mm_h hts mm_w24) (fun _ h9 => h9) rfl dX11_says_27 ?_
              refine lv_iload_n hx hb dX11_says_30 rfl (lv_at hl 1 rfl) ?_
              refine lv_iload_n hx hb dX11_says_31 rfl (lv_at hl 2 rfl) ?_
              refine lv_iload_n hx hb dX11_says_32 rfl (lv_at hl 3 rfl) ?_
              refine mm_finir (va_runV (As := [.int i_0, .int i_1, .int i_2]) (rest := []) ⟨hx, hb, hml, hown, hts⟩ (K358_X10_wordFor l G cy H.size a_3 i_0 i_1 i_2 a_12 a_13 i_3 i_4 i_5 i_6 i_7 i_8 i_9 i_10 a_14 a_15 a_16 a_17 a_18 a_19 a_20 a_21 a_22 a_23 f_0 a_24 a_25 a_26 a_27 a_28 i_11 i_12 i_13 f_1 a_29 a_30 i_14 i_15 i_16 f_2 a_31 a_32 i_17 i_18 i_19 f_3 w3 (mm_wk w9 (by decide)) w15 h0 h2 h3 h4 h5 h6 h7 h8) (cwV 3 hts (mm_gV mm_w725 mm_w726 mm_w727 mm_w23 mm_w728) rfl rfl rfl hd_X10_wordFor ⟨by rw [hRf]; exact Nat.le_of_ble_eq_true rfl, by rw [hRl]; exact Nat.le_of_ble_eq_true rfl⟩) (mm_preV hK hZ hS hA hP hD [1, 2, 3, 4, 5, 6, 7, 8, 9, 10] rfl rfl 1 rfl rfl rfl) rfl rfl hl.1 rfl (lv_room (Nat.le_of_ble_eq_true rfl)) dX11_says_33 ⟨by rw [hRc]; exact Nat.le_of_ble_eq_true rfl, by rw [hRs]; exact Nat.le_of_ble_eq_true rfl⟩) hP hD hS hA [1, 2, 3, 4, 5, 6, 7, 8, 9, 10] rfl (fun _ => rfl) ?_
              clear hP hD hS
              clear H locs
              intro v19 _u H locs hw hP hD hS
              have w20 := hw
              subst hAe
              rw [hQ]
              exact W.iret (v := v19) hx hb hr (fun t ht hW => ⟨⟨v19, (), rfl, (mm_wk w20 (by decide)), by rw [ht]; exact hP, hK.warm hW, hD⟩, hS.F ht⟩) hS.2.2 dX11_says_36
            · exact mm_eqN c18.symm mm_k0 mm_k1 (by decide)

set_option maxHeartbeats 4000000 in
set_option maxRecDepth 100000 in
theorem K360_X10_period (l : Launch) (G : va_G) (cy : Nat → ClassId) (sz : Nat) (a_0 : Nat) (i_0 : Int32) (a_1 : Nat) (a_2 : Nat) (a_3 : Nat) (a_4 : Nat) (a_5 : Nat) (a_6 : Nat) (a_7 : Nat) (i_1 : Int32) (i_2 : Int32) (i_3 : Int32) (a_8 : Nat) (a_9 : Nat) (i_4 : Int32) (i_5 : Int32) (i_6 : Int32) (a_10 : Nat) (a_11 : Nat) (i_7 : Int32) (i_8 : Int32) (i_9 : Int32) (h0 : mm_rg i_0 0 2) (h1 : mm_rg i_3 (-2147483648) 210) (h2 : mm_rg i_6 (-2147483648) 210) (h3 : mm_rg i_9 (-2147483648) 210)  : mm_CI l yX10_period (mm_ws yX10_period cX10_period 2 (some .int)) ({ frames := 0, cells := 0, slots := 0, locals := 0 } : Room) G cy sz [(a_0, .inr (10, [.ref a_1, .ref a_2])), (a_2, .inl (cy 5, 3, .inr (.inr (.inr (.inr (va_up (va_up (va_up (fun _ => none) 0 (some a_3)) 1 (some a_4)) 2 (some a_5))))))), (a_3, .inr (1, [.ref a_6, .ref a_7, .int i_1, .int i_2, .int i_3])), (a_4, .inr (1, [.ref a_8, .ref a_9, .int i_4, .int i_5, .int i_6])), (a_5, .inr (1, [.ref a_10, .ref a_11, .int i_7, .int i_8, .int i_9]))] [.ref a_0, .int i_0] (fun u : Unit => [(a_0, .inr (10, [.ref a_1, .ref a_2])), (a_2, .inl (cy 5, 3, .inr (.inr (.inr (.inr (va_up (va_up (va_up (fun _ => none) 0 (some a_3)) 1 (some a_4)) 2 (some a_5))))))), (a_3, .inr (1, [.ref a_6, .ref a_7, .int i_1, .int i_2, .int i_3])), (a_4, .inr (1, [.ref a_8, .ref a_9, .int i_4, .int i_5, .int i_6])), (a_5, .inr (1, [.ref a_10, .ref a_11, .int i_7, .int i_8, .int i_9]))]) (fun (r : Int32) (u : Unit) => mm_rg r (-2147483648) 210) 0 0 := by
  refine mm_begin (lv := [(0, .ref a_0), (1, .int i_0)]) (by decide) (Nat.le_of_ble_eq_true rfl) rfl ?_
  intro p e s m below meth c A ls R args Q H locs hRe hQ hAe hx hb hr hlocks hml hown hnm hts hsz hA hS hP hK hD hZ hl
  have hRf : R.frames = 0 := by rw [hRe]
  have hRl : R.locals = 0 := by rw [hRe]
  have hRc : R.cells = 0 := by rw [hRe]
  have hRs : R.slots = 0 := by rw [hRe]
  refine lv_aload_n hx hb dX10_period_0 rfl (lv_at hl 0 rfl) ?_
  refine va_get (D := G) (ci := 10) (v := .ref a_2) (C := RX10) (T := TX10) (N := 2) hx hb hts (mm_i inlX10) hown hK.1 hP 0 rfl rfl 1 (by decide) (mm_h hts mm_w89) (fun _ h9 => h9) rfl dX10_period_1 ?_
  refine lv_iload_n hx hb dX10_period_4 rfl (lv_at hl 1 rfl) ?_
  refine va_aldq hx hb hK.1 hP 1 5 rfl rfl (mm_in h0 (by decide)) dX10_period_5 ?_
  have c1 := mm_cases3 h0
  rcases c1 with rfl | rfl | rfl
  · refine W.eq (g2 := F0 m 6 ls [.ref a_3]) rfl ?_
    refine va_get (D := G) (ci := 1) (v := .int i_3) (C := RX1) (T := TX1) (N := 5) hx hb hts (mm_i inlX1) hown hK.1 hP 2 rfl rfl 4 (by decide) (mm_h hts mm_w747) (fun _ h9 => h9) rfl dX10_period_6 ?_
    subst hAe
    rw [hQ]
    exact W.iret (v := i_3) hx hb hr (fun t ht hW => ⟨⟨i_3, (), rfl, h1, by rw [ht]; exact hP, hK.warm hW, hD⟩, hS.F ht⟩) hS.2.2 dX10_period_9
  · refine W.eq (g2 := F0 m 6 ls [.ref a_4]) rfl ?_
    refine va_get (D := G) (ci := 1) (v := .int i_6) (C := RX1) (T := TX1) (N := 5) hx hb hts (mm_i inlX1) hown hK.1 hP 3 rfl rfl 4 (by decide) (mm_h hts mm_w747) (fun _ h9 => h9) rfl dX10_period_6 ?_
    subst hAe
    rw [hQ]
    exact W.iret (v := i_6) hx hb hr (fun t ht hW => ⟨⟨i_6, (), rfl, h2, by rw [ht]; exact hP, hK.warm hW, hD⟩, hS.F ht⟩) hS.2.2 dX10_period_9
  · refine W.eq (g2 := F0 m 6 ls [.ref a_5]) rfl ?_
    refine va_get (D := G) (ci := 1) (v := .int i_9) (C := RX1) (T := TX1) (N := 5) hx hb hts (mm_i inlX1) hown hK.1 hP 4 rfl rfl 4 (by decide) (mm_h hts mm_w747) (fun _ h9 => h9) rfl dX10_period_6 ?_
    subst hAe
    rw [hQ]
    exact W.iret (v := i_9) hx hb hr (fun t ht hW => ⟨⟨i_9, (), rfl, h3, by rw [ht]; exact hP, hK.warm hW, hD⟩, hS.F ht⟩) hS.2.2 dX10_period_9

set_option maxHeartbeats 4000000 in
set_option maxRecDepth 100000 in
theorem K361_X11_round (l : Launch) (G : va_G) (cy : Nat → ClassId) (sz : Nat) (a_0 : Nat) (i_0 : Int32) (a_1 : Nat) (a_2 : Nat) (a_3 : Nat) (a_4 : Nat) (a_5 : Nat) (a_6 : Nat) (a_7 : Nat) (a_8 : Nat) (a_9 : Nat) (a_10 : Nat) (a_11 : Nat) (a_12 : Nat) (a_13 : Nat) (i_1 : Int32) (i_2 : Int32) (i_3 : Int32) (i_4 : Int32) (i_5 : Int32) (i_6 : Int32) (i_7 : Int32) (i_8 : Int32) (a_14 : Nat) (a_15 : Nat) (a_16 : Nat) (a_17 : Nat) (a_18 : Nat) (a_19 : Nat) (a_20 : Nat) (a_21 : Nat) (a_22 : Nat) (a_23 : Nat) (a_24 : Nat) (a_25 : Nat) (a_26 : Nat) (a_27 : Nat) (a_28 : Nat) (i_9 : Int32) (i_10 : Int32) (i_11 : Int32) (a_29 : Nat) (a_30 : Nat) (i_12 : Int32) (i_13 : Int32) (i_14 : Int32) (a_31 : Nat) (a_32 : Nat) (i_15 : Int32) (i_16 : Int32) (i_17 : Int32) (h0 : mm_rg i_6 0 3) (h1 : mm_rg i_11 (-2147483648) 210) (h2 : mm_rg i_14 (-2147483648) 210) (h3 : mm_rg i_17 (-2147483648) 210)  : mm_CI l yX11_round (mm_ws yX11_round cX11_round 2 (some .int)) ({ frames := 1, cells := 0, slots := 0, locals := 21 } : Room) G cy sz [(a_0, .inr (11, [.ref a_1, .ref a_2, .ref a_3, .ref a_4, .ref a_5, .ref a_6, .ref a_7, .ref a_8, .ref a_9, .ref a_10, .ref a_11])), (a_3, .inr (10, [.ref a_12, .ref a_13])), (a_12, .inr (0, [.int i_1, .int i_2, .int i_3, .int i_4, .int i_5, .int i_6, .int i_7, .int i_8, .ref a_14, .ref a_15, .ref a_16, .ref a_17, .ref a_18, .ref a_19, .ref a_20, .ref a_21, .ref a_22, .ref a_23])), (a_13, .inl (cy 5, 3, .inr (.inr (.inr (.inr (va_up (va_up (va_up (fun _ => none) 0 (some a_24)) 1 (some a_25)) 2 (some a_26))))))), (a_24, .inr (1, [.ref a_27, .ref a_28, .int i_9, .int i_10, .int i_11])), (a_25, .inr (1, [.ref a_29, .ref a_30, .int i_12, .int i_13, .int i_14])), (a_26, .inr (1, [.ref a_31, .ref a_32, .int i_15, .int i_16, .int i_17]))] [.ref a_0, .int i_0] (fun u : Unit => [(a_0, .inr (11, [.ref a_1, .ref a_2, .ref a_3, .ref a_4, .ref a_5, .ref a_6, .ref a_7, .ref a_8, .ref a_9, .ref a_10, .ref a_11])), (a_3, .inr (10, [.ref a_12, .ref a_13])), (a_12, .inr (0, [.int i_1, .int i_2, .int i_3, .int i_4, .int i_5, .int i_6, .int i_7, .int i_8, .ref a_14, .ref a_15, .ref a_16, .ref a_17, .ref a_18, .ref a_19, .ref a_20, .ref a_21, .ref a_22, .ref a_23])), (a_13, .inl (cy 5, 3, .inr (.inr (.inr (.inr (va_up (va_up (va_up (fun _ => none) 0 (some a_24)) 1 (some a_25)) 2 (some a_26))))))), (a_24, .inr (1, [.ref a_27, .ref a_28, .int i_9, .int i_10, .int i_11])), (a_25, .inr (1, [.ref a_29, .ref a_30, .int i_12, .int i_13, .int i_14])), (a_26, .inr (1, [.ref a_31, .ref a_32, .int i_15, .int i_16, .int i_17]))]) (fun (r : Int32) (u : Unit) => mm_rg r (-2147483648) 210) 0 0 := by
  refine mm_begin (lv := [(0, .ref a_0), (1, .int i_0)]) (by decide) (Nat.le_of_ble_eq_true rfl) rfl ?_
  intro p e s m below meth c A ls R args Q H locs hRe hQ hAe hx hb hr hlocks hml hown hnm hts hsz hA hS hP hK hD hZ hl
  have hRf : R.frames = 1 := by rw [hRe]
  have hRl : R.locals = 21 := by rw [hRe]
  have hRc : R.cells = 0 := by rw [hRe]
  have hRs : R.slots = 0 := by rw [hRe]
  refine lv_aload_n hx hb dX11_round_0 rfl (lv_at hl 0 rfl) ?_
  refine lv_iload_n hx hb dX11_round_1 rfl (lv_at hl 1 rfl) ?_
  refine mm_finir (va_runV (As := [.int i_0]) (rest := []) ⟨hx, hb, hml, hown, hts⟩ (K350_X11_isLand l G cy H.size a_0 i_0 a_1 a_2 a_3 a_4 a_5 a_6 a_7 a_8 a_9 a_10 a_11 a_12 a_13 i_1 i_2 i_3 i_4 i_5 i_6 i_7 i_8 a_14 a_15 a_16 a_17 a_18 a_19 a_20 a_21 a_22 a_23 h0) (cwV 1 hts (mm_gV mm_w626 mm_w627 mm_w628 mm_w2 mm_w629) rfl rfl rfl hd_X11_isLand ⟨by rw [hRf]; exact Nat.le_of_ble_eq_true rfl, by rw [hRl]; exact Nat.le_of_ble_eq_true rfl⟩) (mm_preV hK hZ hS hA hP hD [0, 1, 2] rfl rfl 0 rfl rfl rfl) rfl rfl hl.1 rfl (lv_room (Nat.le_of_ble_eq_true rfl)) dX11_round_2 ⟨by rw [hRc]; exact Nat.le_of_ble_eq_true rfl, by rw [hRs]; exact Nat.le_of_ble_eq_true rfl⟩) hP hD hS hA [0, 1, 2] rfl (fun _ => rfl) ?_
  clear hP hD hS
  clear H locs
  intro v1 _u H locs hw hP hD hS
  rcases hw with ⟨rfl, w2⟩ | ⟨rfl, w3⟩
  · refine lv_if_eq (tgt := 19) hx hb dX11_round_5 (by decide) (fun c4 => ?_) (fun c4 => ?_)
    · refine lv_bipush (v := (-2)) hx hb dX11_round_19 (by decide) ?_
      subst hAe
      rw [hQ]
      exact W.iret (v := (-2)) hx hb hr (fun t ht hW => ⟨⟨(-2), (), rfl, (mm_wk mm_km2 (by decide)), by rw [ht]; exact hP, hK.warm hW, hD⟩, hS.F ht⟩) hS.2.2 dX11_round_21
    · have q5 := mm_neL (lo := 1) (mm_ne c4) mm_k0 mm_k0 (by decide) (by decide)
      exact mm_no q5 (by decide)
  · refine lv_if_eq (tgt := 19) hx hb dX11_round_5 (by decide) (fun c6 => ?_) (fun c6 => ?_)
    · exact mm_eqN c6.symm mm_k0 mm_k1 (by decide)
    · refine lv_aload_n hx hb dX11_round_8 rfl (lv_at hl 0 rfl) ?_
      refine va_get (D := G) (ci := 11) (v := .ref a_3) (C := RX11) (T := TX11) (N := 11) hx hb hts (mm_i inlX11) hown hK.1 hP 0 rfl rfl 2 (by decide) (mm_h hts mm_w24) (fun _ h9 => h9) rfl dX11_round_9 ?_
      refine lv_iload_n hx hb dX11_round_12 rfl (lv_at hl 1 rfl) ?_
      refine mm_finir (va_runV (As := [.int i_0]) (rest := []) ⟨hx, hb, hml, hown, hts⟩ (K360_X10_period l G cy H.size a_3 i_0 a_12 a_13 a_24 a_25 a_26 a_27 a_28 i_9 i_10 i_11 a_29 a_30 i_12 i_13 i_14 a_31 a_32 i_15 i_16 i_17 w3 h1 h2 h3) (cwV 1 hts (mm_gV mm_w743 mm_w744 mm_w745 mm_w23 mm_w746) rfl rfl rfl hd_X10_period ⟨by rw [hRf]; exact Nat.le_of_ble_eq_true rfl, by rw [hRl]; exact Nat.le_of_ble_eq_true rfl⟩) (mm_preV hK hZ hS hA hP hD [1, 3, 4, 5, 6] rfl rfl 1 rfl rfl rfl) rfl rfl hl.1 rfl (lv_room (Nat.le_of_ble_eq_true rfl)) dX11_round_13 ⟨by rw [hRc]; exact Nat.le_of_ble_eq_true rfl, by rw [hRs]; exact Nat.le_of_ble_eq_true rfl⟩) hP hD hS hA [1, 3, 4, 5, 6] rfl (fun _ => rfl) ?_
      clear hP hD hS
      clear H locs
      intro v7 _u H locs hw hP hD hS
      have w8 := hw
      refine lv_goto (tgt := 21) hx hb dX11_round_16 (by decide) ?_
      subst hAe
      rw [hQ]
      exact W.iret (v := v7) hx hb hr (fun t ht hW => ⟨⟨v7, (), rfl, w8, by rw [ht]; exact hP, hK.warm hW, hD⟩, hS.F ht⟩) hS.2.2 dX11_round_21

set_option maxHeartbeats 4000000 in
set_option maxRecDepth 100000 in
theorem K362_X11_when (l : Launch) (G : va_G) (cy : Nat → ClassId) (sz : Nat) (a_0 : Nat) (i_0 : Int32) (i_1 : Int32) (i_2 : Int32) (i_3 : Int32) (a_1 : Nat) (a_2 : Nat) (a_3 : Nat) (a_4 : Nat) (a_5 : Nat) (a_6 : Nat) (a_7 : Nat) (a_8 : Nat) (a_9 : Nat) (a_10 : Nat) (a_11 : Nat) (a_12 : Nat) (a_13 : Nat) (i_4 : Int32) (i_5 : Int32) (i_6 : Int32) (i_7 : Int32) (i_8 : Int32) (i_9 : Int32) (i_10 : Int32) (i_11 : Int32) (a_14 : Nat) (a_15 : Nat) (a_16 : Nat) (a_17 : Nat) (a_18 : Nat) (a_19 : Nat) (a_20 : Nat) (a_21 : Nat) (a_22 : Nat) (a_23 : Nat) (f_0 : Nat → Int32) (a_24 : Nat) (a_25 : Nat) (a_26 : Nat) (a_27 : Nat) (a_28 : Nat) (i_12 : Int32) (i_13 : Int32) (i_14 : Int32) (f_1 : Nat → Int32) (a_29 : Nat) (a_30 : Nat) (i_15 : Int32) (i_16 : Int32) (i_17 : Int32) (f_2 : Nat → Int32) (a_31 : Nat) (a_32 : Nat) (i_18 : Int32) (i_19 : Int32) (i_20 : Int32) (f_3 : Nat → Int32) (h0 : mm_rg i_8 0 9) (h1 : mm_rg i_9 0 3) (h2 : mm_ar f_0 0 9) (h3 : mm_rg i_14 (-2147483648) 210) (h4 : mm_ar f_1 0 9) (h5 : mm_rg i_17 (-2147483648) 210) (h6 : mm_ar f_2 0 9) (h7 : mm_rg i_20 (-2147483648) 210) (h8 : mm_ar f_3 0 9)  : mm_CI l yX11_when (mm_ws yX11_when cX11_when 7 (some .int)) ({ frames := 2, cells := 0, slots := 0, locals := 45 } : Room) G cy sz [(a_0, .inr (11, [.ref a_1, .ref a_2, .ref a_3, .ref a_4, .ref a_5, .ref a_6, .ref a_7, .ref a_8, .ref a_9, .ref a_10, .ref a_11])), (a_3, .inr (10, [.ref a_12, .ref a_13])), (a_12, .inr (0, [.int i_4, .int i_5, .int i_6, .int i_7, .int i_8, .int i_9, .int i_10, .int i_11, .ref a_14, .ref a_15, .ref a_16, .ref a_17, .ref a_18, .ref a_19, .ref a_20, .ref a_21, .ref a_22, .ref a_23])), (a_20, .inl (cy 1, 30, .inl f_0)), (a_13, .inl (cy 5, 3, .inr (.inr (.inr (.inr (va_up (va_up (va_up (fun _ => none) 0 (some a_24)) 1 (some a_25)) 2 (some a_26))))))), (a_24, .inr (1, [.ref a_27, .ref a_28, .int i_12, .int i_13, .int i_14])), (a_27, .inl (cy 1, 2100, .inl f_1)), (a_25, .inr (1, [.ref a_29, .ref a_30, .int i_15, .int i_16, .int i_17])), (a_29, .inl (cy 1, 2100, .inl f_2)), (a_26, .inr (1, [.ref a_31, .ref a_32, .int i_18, .int i_19, .int i_20])), (a_31, .inl (cy 1, 2100, .inl f_3))] [.ref a_0, .int i_0, .int i_1, .int i_2, .int i_3] (fun u : Unit => [(a_0, .inr (11, [.ref a_1, .ref a_2, .ref a_3, .ref a_4, .ref a_5, .ref a_6, .ref a_7, .ref a_8, .ref a_9, .ref a_10, .ref a_11])), (a_3, .inr (10, [.ref a_12, .ref a_13])), (a_12, .inr (0, [.int i_4, .int i_5, .int i_6, .int i_7, .int i_8, .int i_9, .int i_10, .int i_11, .ref a_14, .ref a_15, .ref a_16, .ref a_17, .ref a_18, .ref a_19, .ref a_20, .ref a_21, .ref a_22, .ref a_23])), (a_20, .inl (cy 1, 30, .inl f_0)), (a_13, .inl (cy 5, 3, .inr (.inr (.inr (.inr (va_up (va_up (va_up (fun _ => none) 0 (some a_24)) 1 (some a_25)) 2 (some a_26))))))), (a_24, .inr (1, [.ref a_27, .ref a_28, .int i_12, .int i_13, .int i_14])), (a_27, .inl (cy 1, 2100, .inl f_1)), (a_25, .inr (1, [.ref a_29, .ref a_30, .int i_15, .int i_16, .int i_17])), (a_29, .inl (cy 1, 2100, .inl f_2)), (a_26, .inr (1, [.ref a_31, .ref a_32, .int i_18, .int i_19, .int i_20])), (a_31, .inl (cy 1, 2100, .inl f_3))]) (fun (r : Int32) (u : Unit) => mm_rg r (-2) 1000000209) 0 0 := by
  refine mm_begin (lv := [(0, .ref a_0), (1, .int i_0), (2, .int i_1), (3, .int i_2), (4, .int i_3)]) (by decide) (Nat.le_of_ble_eq_true rfl) rfl ?_
  intro p e s m below meth c A ls R args Q H locs hRe hQ hAe hx hb hr hlocks hml hown hnm hts hsz hA hS hP hK hD hZ hl
  have hRf : R.frames = 2 := by rw [hRe]
  have hRl : R.locals = 45 := by rw [hRe]
  have hRc : R.cells = 0 := by rw [hRe]
  have hRs : R.slots = 0 := by rw [hRe]
  refine lv_aload_n hx hb dX11_when_0 rfl (lv_at hl 0 rfl) ?_
  refine lv_iload_n hx hb dX11_when_1 rfl (lv_at hl 1 rfl) ?_
  refine mm_finir (va_runV (As := [.int i_0]) (rest := []) ⟨hx, hb, hml, hown, hts⟩ (K350_X11_isLand l G cy H.size a_0 i_0 a_1 a_2 a_3 a_4 a_5 a_6 a_7 a_8 a_9 a_10 a_11 a_12 a_13 i_4 i_5 i_6 i_7 i_8 i_9 i_10 i_11 a_14 a_15 a_16 a_17 a_18 a_19 a_20 a_21 a_22 a_23 h1) (cwV 1 hts (mm_gV mm_w626 mm_w627 mm_w628 mm_w2 mm_w629) rfl rfl rfl hd_X11_isLand ⟨by rw [hRf]; exact Nat.le_of_ble_eq_true rfl, by rw [hRl]; exact Nat.le_of_ble_eq_true rfl⟩) (mm_preV hK hZ hS hA hP hD [0, 1, 2] rfl rfl 0 rfl rfl rfl) rfl rfl hl.1 rfl (lv_room (Nat.le_of_ble_eq_true rfl)) dX11_when_2 ⟨by rw [hRc]; exact Nat.le_of_ble_eq_true rfl, by rw [hRs]; exact Nat.le_of_ble_eq_true rfl⟩) hP hD hS hA [0, 1, 2] rfl (fun _ => rfl) ?_
  clear hP hD hS
  clear H locs
  intro v1 _u H locs hw hP hD hS
  rcases hw with ⟨rfl, w2⟩ | ⟨rfl, w3⟩
  · refine lv_if_eq (tgt := 32) hx hb dX11_when_5 (by decide) (fun c4 => ?_) (fun c4 => ?_)
    · refine lv_bipush (v := (-2)) hx hb dX11_when_32 (by decide) ?_
      subst hAe
      rw [hQ]
      exact W.iret (v := (-2)) hx hb hr (fun t ht hW => ⟨⟨(-2), (), rfl, (mm_wk mm_km2 (by decide)), by rw [ht]; exact hP, hK.warm hW, hD⟩, hS.F ht⟩) hS.2.2 dX11_when_34
    · have q5 := mm_neL (lo := 1) (mm_ne c4) mm_k0 mm_k0 (by decide) (by decide)
      exact mm_no q5 (by decide)
  · refine lv_if_eq (tgt := 32) hx hb dX11_when_5 (by decide) (fun c6 => ?_) (fun c6 => ?_)
    · exact mm_eqN c6.symm mm_k0 mm_k1 (by decide)
    · refine lv_aload_n hx hb dX11_when_8 rfl (lv_at hl 0 rfl) ?_
      refine lv_iload_n hx hb dX11_when_9 rfl (lv_at hl 2 rfl) ?_
      refine mm_finir (va_runV (As := [.int i_1]) (rest := []) ⟨hx, hb, hml, hown, hts⟩ (K351_X11_isWord l G cy H.size a_0 i_1 a_1 a_2 a_3 a_4 a_5 a_6 a_7 a_8 a_9 a_10 a_11 a_12 a_13 i_4 i_5 i_6 i_7 i_8 i_9 i_10 i_11 a_14 a_15 a_16 a_17 a_18 a_19 a_20 a_21 a_22 a_23 h0) (cwV 1 hts (mm_gV mm_w631 mm_w632 mm_w633 mm_w2 mm_w634) rfl rfl rfl hd_X11_isWord ⟨by rw [hRf]; exact Nat.le_of_ble_eq_true rfl, by rw [hRl]; exact Nat.le_of_ble_eq_true rfl⟩) (mm_preV hK hZ hS hA hP hD [0, 1, 2] rfl rfl 0 rfl rfl rfl) rfl rfl hl.1 rfl (lv_room (Nat.le_of_ble_eq_true rfl)) dX11_when_10 ⟨by rw [hRc]; exact Nat.le_of_ble_eq_true rfl, by rw [hRs]; exact Nat.le_of_ble_eq_true rfl⟩) hP hD hS hA [0, 1, 2] rfl (fun _ => rfl) ?_
      clear hP hD hS
      clear H locs
      intro v7 _u H locs hw hP hD hS
      rcases hw with ⟨rfl, w8⟩ | ⟨rfl, w9⟩
      · refine lv_if_eq (tgt := 32) hx hb dX11_when_13 (by decide) (fun c10 => ?_) (fun c10 => ?_)
        · refine lv_bipush (v := (-2)) hx hb dX11_when_32 (by decide) ?_
          subst hAe
          rw [hQ]
          exact W.iret (v := (-2)) hx hb hr (fun t ht hW => ⟨⟨(-2), (), rfl, (mm_wk mm_km2 (by decide)), by rw [ht]; exact hP, hK.warm hW, hD⟩, hS.F ht⟩) hS.2.2 dX11_when_34
        · have q11 := mm_neL (lo := 1) (mm_ne c10) mm_k0 mm_k0 (by decide) (by decide)
          exact mm_no q11 (by decide)
      · refine lv_if_eq (tgt := 32) hx hb dX11_when_13 (by decide) (fun c12 => ?_) (fun c12 => ?_)
        · exact mm_eqN c12.symm mm_k0 mm_k1 (by decide)
        · refine lv_aload_n hx hb dX11_when_16 rfl (lv_at hl 0 rfl) ?_
          refine lv_iload_n hx hb dX11_when_17 rfl (lv_at hl 3 rfl) ?_
          refine mm_finir (va_runV (As := [.int i_2]) (rest := []) ⟨hx, hb, hml, hown, hts⟩ (K357_X11_isMeaning l G cy H.size a_0 i_2 a_1 a_2 a_3 a_4 a_5 a_6 a_7 a_8 a_9 a_10 a_11 a_12 a_13 i_4 i_5 i_6 i_7 i_8 i_9 i_10 i_11 a_14 a_15 a_16 a_17 a_18 a_19 a_20 a_21 a_22 a_23 h0) (cwV 1 hts (mm_gV mm_w721 mm_w722 mm_w723 mm_w2 mm_w724) rfl rfl rfl hd_X11_isMeaning ⟨by rw [hRf]; exact Nat.le_of_ble_eq_true rfl, by rw [hRl]; exact Nat.le_of_ble_eq_true rfl⟩) (mm_preV hK hZ hS hA hP hD [0, 1, 2] rfl rfl 0 rfl rfl rfl) rfl rfl hl.1 rfl (lv_room (Nat.le_of_ble_eq_true rfl)) dX11_when_18 ⟨by rw [hRc]; exact Nat.le_of_ble_eq_true rfl, by rw [hRs]; exact Nat.le_of_ble_eq_true rfl⟩) hP hD hS hA [0, 1, 2] rfl (fun _ => rfl) ?_
          clear hP hD hS
          clear H locs
          intro v13 _u H locs hw hP hD hS
          rcases hw with ⟨rfl, w14⟩ | ⟨rfl, w15⟩
          · refine lv_if_eq (tgt := 32) hx hb dX11_when_21 (by decide) (fun c16 => ?_) (fun c16 => ?_)
            · refine lv_bipush (v := (-2)) hx hb dX11_when_32 (by decide) ?_
              subst hAe
              rw [hQ]
              exact W.iret (v := (-2)) hx hb hr (fun t ht hW => ⟨⟨(-2), (), rfl, (mm_wk mm_km2 (by decide)), by rw [ht]; exact hP, hK.warm hW, hD⟩, hS.F ht⟩) hS.2.2 dX11_when_34
            · have q17 := mm_neL (lo := 1) (mm_ne c16) mm_k0 mm_k0 (by decide) (by decide)
              exact mm_no q17 (by decide)
          · refine lv_if_eq (tgt := 32) hx hb dX11_when_21 (by decide) (fun c18 => ?_) (fun c18 => ?_)
            · exact mm_eqN c18.symm mm_k0 mm_k1 (by decide)
            · refine lv_iload hx hb dX11_when_24 (lv_at hl 4 rfl) ?_
              refine mm_finir (va_runS (As := [.int i_3]) (rest := []) ⟨hx, hb, hml, hown, hts⟩ (K353_X11_isDay l G cy H.size i_3 ) (va_cwS 1 hts (mm_gS mm_w661 mm_w662 mm_w2 mm_w663) rfl rfl rfl hs_X11_isDay ⟨by rw [hRf]; exact Nat.le_of_ble_eq_true rfl, by rw [hRl]; exact Nat.le_of_ble_eq_true rfl⟩) (mm_preS hK hZ hS hA hP hD [] rfl rfl) rfl rfl hl.1 rfl (lv_room (Nat.le_of_ble_eq_true rfl)) dX11_when_26 ⟨by rw [hRc]; exact Nat.le_of_ble_eq_true rfl, by rw [hRs]; exact Nat.le_of_ble_eq_true rfl⟩) hP hD hS hA [] rfl (fun _ => rfl) ?_
              clear hP hD hS
              clear H locs
              intro v19 _u H locs hw hP hD hS
              rcases hw with ⟨rfl, w20⟩ | ⟨rfl, w21⟩
              · refine lv_if_ne (tgt := 35) hx hb dX11_when_29 (by decide) (fun c22 => ?_) (fun c22 => ?_)
                · have q23 := mm_neL (lo := 1) (mm_ne c22) mm_k0 mm_k0 (by decide) (by decide)
                  exact mm_no q23 (by decide)
                · refine lv_bipush (v := (-2)) hx hb dX11_when_32 (by decide) ?_
                  subst hAe
                  rw [hQ]
                  exact W.iret (v := (-2)) hx hb hr (fun t ht hW => ⟨⟨(-2), (), rfl, (mm_wk mm_km2 (by decide)), by rw [ht]; exact hP, hK.warm hW, hD⟩, hS.F ht⟩) hS.2.2 dX11_when_34
              · refine lv_if_ne (tgt := 35) hx hb dX11_when_29 (by decide) (fun c24 => ?_) (fun c24 => ?_)
                · refine lv_aload_n hx hb dX11_when_35 rfl (lv_at hl 0 rfl) ?_
                  refine va_get (D := G) (ci := 11) (v := .ref a_3) (C := RX11) (T := TX11) (N := 11) hx hb hts (mm_i inlX11) hown hK.1 hP 0 rfl rfl 2 (by decide) (mm_h hts mm_w24) (fun _ h9 => h9) rfl dX11_when_36 ?_
                  refine lv_iload_n hx hb dX11_when_39 rfl (lv_at hl 1 rfl) ?_
                  refine mm_finir (va_runV (As := [.int i_0]) (rest := []) ⟨hx, hb, hml, hown, hts⟩ (K360_X10_period l G cy H.size a_3 i_0 a_12 a_13 a_24 a_25 a_26 a_27 a_28 i_12 i_13 i_14 a_29 a_30 i_15 i_16 i_17 a_31 a_32 i_18 i_19 i_20 w3 h3 h5 h7) (cwV 1 hts (mm_gV mm_w743 mm_w744 mm_w745 mm_w23 mm_w746) rfl rfl rfl hd_X10_period ⟨by rw [hRf]; exact Nat.le_of_ble_eq_true rfl, by rw [hRl]; exact Nat.le_of_ble_eq_true rfl⟩) (mm_preV hK hZ hS hA hP hD [1, 4, 5, 7, 9] rfl rfl 1 rfl rfl rfl) rfl rfl hl.1 rfl (lv_room (Nat.le_of_ble_eq_true rfl)) dX11_when_40 ⟨by rw [hRc]; exact Nat.le_of_ble_eq_true rfl, by rw [hRs]; exact Nat.le_of_ble_eq_true rfl⟩) hP hD hS hA [1, 4, 5, 7, 9] rfl (fun _ => rfl) ?_
                  clear hP hD hS
                  clear H locs
                  intro v25 _u H locs hw hP hD hS
                  have w26 := hw
                  refine lv_istore (lv' := [(5, .int v25), (0, .ref a_0), (1, .int i_0), (2, .int i_1), (3, .int i_2), (4, .int i_3)]) hx hb dX11_when_43 hl (by decide) rfl ?_
                  clear hl
                  clear ls
                  intro ls hl
                  refine lv_iconst (v := 0) hx hb dX11_when_45 (by decide) ?_
                  refine lv_istore (lv' := [(6, .int 0), (5, .int v25), (0, .ref a_0), (1, .int i_0), (2, .int i_1), (3, .int i_2), (4, .int i_3)]) hx hb dX11_when_46 hl (by decide) rfl ?_
                  clear hl
                  clear ls
                  intro ls hl
                  have L48_170 : ∀ (n : Nat) (x48_6_170 : Int32), mm_rg x48_6_170 0 210 → (210 - x48_6_170.toInt).toNat < n → ∀ (H : Heap) (locs : List Loc), va_P G vwCl [(a_0, .inr (11, [.ref a_1, .ref a_2, .ref a_3, .ref a_4, .ref a_5, .ref a_6, .ref a_7, .ref a_8, .ref a_9, .ref a_10, .ref a_11])), (a_3, .inr (10, [.ref a_12, .ref a_13])), (a_12, .inr (0, [.int i_4, .int i_5, .int i_6, .int i_7, .int i_8, .int i_9, .int i_10, .int i_11, .ref a_14, .ref a_15, .ref a_16, .ref a_17, .ref a_18, .ref a_19, .ref a_20, .ref a_21, .ref a_22, .ref a_23])), (a_20, .inl (cy 1, 30, .inl f_0)), (a_13, .inl (cy 5, 3, .inr (.inr (.inr (.inr (va_up (va_up (va_up (fun _ => none) 0 (some a_24)) 1 (some a_25)) 2 (some a_26))))))), (a_24, .inr (1, [.ref a_27, .ref a_28, .int i_12, .int i_13, .int i_14])), (a_27, .inl (cy 1, 2100, .inl f_1)), (a_25, .inr (1, [.ref a_29, .ref a_30, .int i_15, .int i_16, .int i_17])), (a_29, .inl (cy 1, 2100, .inl f_2)), (a_26, .inr (1, [.ref a_31, .ref a_32, .int i_18, .int i_19, .int i_20])), (a_31, .inl (cy 1, 2100, .inl f_3))] H → va_D A [(a_0, .inr (11, [.ref a_1, .ref a_2, .ref a_3, .ref a_4, .ref a_5, .ref a_6, .ref a_7, .ref a_8, .ref a_9, .ref a_10, .ref a_11])), (a_3, .inr (10, [.ref a_12, .ref a_13])), (a_12, .inr (0, [.int i_4, .int i_5, .int i_6, .int i_7, .int i_8, .int i_9, .int i_10, .int i_11, .ref a_14, .ref a_15, .ref a_16, .ref a_17, .ref a_18, .ref a_19, .ref a_20, .ref a_21, .ref a_22, .ref a_23])), (a_20, .inl (cy 1, 30, .inl f_0)), (a_13, .inl (cy 5, 3, .inr (.inr (.inr (.inr (va_up (va_up (va_up (fun _ => none) 0 (some a_24)) 1 (some a_25)) 2 (some a_26))))))), (a_24, .inr (1, [.ref a_27, .ref a_28, .int i_12, .int i_13, .int i_14])), (a_27, .inl (cy 1, 2100, .inl f_1)), (a_25, .inr (1, [.ref a_29, .ref a_30, .int i_15, .int i_16, .int i_17])), (a_29, .inl (cy 1, 2100, .inl f_2)), (a_26, .inr (1, [.ref a_31, .ref a_32, .int i_18, .int i_19, .int i_20])), (a_31, .inl (cy 1, 2100, .inl f_3))] → va_S A s.heap H locs → ∀ (ls : Array Slot), lv_has ls 7 [(6, .int x48_6_170), (5, .int v25), (0, .ref a_0), (1, .int i_0), (2, .int i_1), (3, .int i_2), (4, .int i_3)] → W p l e R s m args below meth c H locs 0 0 Q (F0 m 48 ls []) := by
                    intro n
                    induction n with
                    | zero => intro x48_6_170 rx48_6_170 hm; exact absurd hm (Nat.not_lt_zero _)
                    | succ n ih48 =>
                      intro x48_6_170 rx48_6_170 hm48 H locs hP hD hS ls hl
                      refine lv_iload hx hb dX11_when_48 (lv_at hl 0 rfl) ?_
                      refine lv_iload hx hb dX11_when_50 (lv_at hl 1 rfl) ?_
                      refine lv_icmp_ge (tgt := 85) hx hb dX11_when_52 (by decide) (fun c172 => ?_) (fun c172 => ?_)
                      · refine lv_iconst (v := (-1)) hx hb dX11_when_85 (by decide) ?_
                        subst hAe
                        rw [hQ]
                        exact W.iret (v := (-1)) hx hb hr (fun t ht hW => ⟨⟨(-1), (), rfl, (mm_wk mm_km1 (by decide)), by rw [ht]; exact hP, hK.warm hW, hD⟩, hS.F ht⟩) hS.2.2 dX11_when_86
                      · have q173 := mm_ltL (h := 209) (mm_nle c172) rx48_6_170 w26 (by decide)
                        have q174 := mm_ltR (lo := 1) (mm_nle c172) rx48_6_170 w26 (by decide)
                        refine lv_aload_n hx hb dX11_when_55 rfl (lv_at hl 2 rfl) ?_
                        refine va_get (D := G) (ci := 11) (v := .ref a_3) (C := RX11) (T := TX11) (N := 11) hx hb hts (mm_i inlX11) hown hK.1 hP 0 rfl rfl 2 (by decide) (mm_h hts mm_w24) (fun _ h9 => h9) rfl dX11_when_56 ?_
                        refine lv_iload_n hx hb dX11_when_59 rfl (lv_at hl 3 rfl) ?_
                        refine lv_iload hx hb dX11_when_60 (lv_at hl 6 rfl) ?_
                        refine lv_iload hx hb dX11_when_62 (lv_at hl 0 rfl) ?_
                        refine lv_iadd hx hb dX11_when_64 ?_
                        refine lv_topi (fun v175 ev175 => ?_)
                        have rv175 : mm_rg v175 0 1000000209 := mm_add ev175 w21 q173 (by decide) (by decide)
                        have tv175 := mm_addE ev175 w21 q173 (by decide)
                        refine lv_iload_n hx hb dX11_when_65 rfl (lv_at hl 4 rfl) ?_
                        refine mm_finir (va_runV (As := [.int i_0, .int v175, .int i_1]) (rest := []) ⟨hx, hb, hml, hown, hts⟩ (K355_X10_meaning l G cy H.size a_3 i_0 v175 i_1 a_12 a_13 i_4 i_5 i_6 i_7 i_8 i_9 i_10 i_11 a_14 a_15 a_16 a_17 a_18 a_19 a_20 a_21 a_22 a_23 f_0 a_24 a_25 a_26 a_27 a_28 i_12 i_13 i_14 f_1 a_29 a_30 i_15 i_16 i_17 f_2 a_31 a_32 i_18 i_19 i_20 f_3 w3 (mm_wk rv175 (by decide)) w9 h2 h3 h4 h5 h6 h7 h8) (cwV 3 hts (mm_gV mm_w665 mm_w666 mm_w667 mm_w23 mm_w668) rfl rfl rfl hd_X10_meaning ⟨by rw [hRf]; exact Nat.le_of_ble_eq_true rfl, by rw [hRl]; exact Nat.le_of_ble_eq_true rfl⟩) (mm_preV hK hZ hS hA hP hD [1, 2, 3, 4, 5, 6, 7, 8, 9, 10] rfl rfl 1 rfl rfl rfl) rfl rfl hl.1 rfl (lv_room (Nat.le_of_ble_eq_true rfl)) dX11_when_66 ⟨by rw [hRc]; exact Nat.le_of_ble_eq_true rfl, by rw [hRs]; exact Nat.le_of_ble_eq_true rfl⟩) hP hD hS hA [1, 2, 3, 4, 5, 6, 7, 8, 9, 10] rfl (fun _ => rfl) ?_
                        clear hP hD hS
                        clear H locs
                        intro v176 _u H locs hw hP hD hS
                        have w177 := hw
                        refine lv_iload_n hx hb dX11_when_69 rfl (lv_at hl 5 rfl) ?_
                        refine lv_icmp_ne (tgt := 79) hx hb dX11_when_70 (by decide) (fun c178 => ?_) (fun c178 => ?_)
                        · obtain ⟨v179, ev179⟩ : ∃ y : Int32, y = x48_6_170 + 1 := ⟨_, rfl⟩
                          refine lv_iinc (v := v179) (lv' := [(6, .int v179), (5, .int v25), (0, .ref a_0), (1, .int i_0), (2, .int i_1), (3, .int i_2), (4, .int i_3)]) hx hb dX11_when_79 hl (k := 0) rfl (by rw [ev179]; rfl) (by decide) rfl ?_
                          clear hl
                          clear ls
                          intro ls hl
                          have rv179 : mm_rg v179 1 210 := mm_add ev179 q173 mm_k1 (by decide) (by decide)
                          have tv179 := mm_addEc ev179 q173 mm_k1 (by decide) (k := 1) (by decide)
                          refine lv_goto (tgt := 48) hx hb dX11_when_82 (by decide) ?_
                          exact ih48 v179 (mm_wk rv179 (by decide)) (mm_mu hm48 tv179 (by decide) (rv179).2 (by decide)) H locs hP hD hS ls (lv_sub hl [0, 1, 2, 3, 4, 5, 6] rfl)
                        · refine lv_iload hx hb dX11_when_73 (lv_at hl 6 rfl) ?_
                          refine lv_iload hx hb dX11_when_75 (lv_at hl 0 rfl) ?_
                          refine lv_iadd hx hb dX11_when_77 ?_
                          refine lv_topi (fun v180 ev180 => ?_)
                          have rv180 : mm_rg v180 0 1000000209 := mm_add ev180 w21 q173 (by decide) (by decide)
                          have tv180 := mm_addE ev180 w21 q173 (by decide)
                          subst hAe
                          rw [hQ]
                          exact W.iret (v := v180) hx hb hr (fun t ht hW => ⟨⟨v180, (), rfl, (mm_wk rv180 (by decide)), by rw [ht]; exact hP, hK.warm hW, hD⟩, hS.F ht⟩) hS.2.2 dX11_when_78
                  exact L48_170 _ 0 (mm_wk mm_k0 (by decide)) (Nat.lt_succ_self _) H locs hP hD hS ls (lv_sub hl [0, 1, 2, 3, 4, 5, 6] rfl)
                · exact mm_eqN c24.symm mm_k0 mm_k1 (by decide)

set_option maxHeartbeats 4000000 in
set_option maxRecDepth 100000 in
theorem K363_X10_daysOfMeaning (l : Launch) (G : va_G) (cy : Nat → ClassId) (sz : Nat) (a_0 : Nat) (i_0 : Int32) (i_1 : Int32) (i_2 : Int32) (a_1 : Nat) (a_2 : Nat) (i_3 : Int32) (i_4 : Int32) (i_5 : Int32) (i_6 : Int32) (i_7 : Int32) (i_8 : Int32) (i_9 : Int32) (i_10 : Int32) (a_3 : Nat) (a_4 : Nat) (a_5 : Nat) (a_6 : Nat) (a_7 : Nat) (a_8 : Nat) (a_9 : Nat) (a_10 : Nat) (a_11 : Nat) (a_12 : Nat) (f_0 : Nat → Int32) (a_13 : Nat) (a_14 : Nat) (a_15 : Nat) (a_16 : Nat) (a_17 : Nat) (i_11 : Int32) (i_12 : Int32) (i_13 : Int32) (f_1 : Nat → Int32) (a_18 : Nat) (a_19 : Nat) (i_14 : Int32) (i_15 : Int32) (i_16 : Int32) (f_2 : Nat → Int32) (a_20 : Nat) (a_21 : Nat) (i_17 : Int32) (i_18 : Int32) (i_19 : Int32) (f_3 : Nat → Int32) (h0 : mm_rg i_0 0 2) (h1 : mm_rg i_1 0 9) (h2 : mm_rg i_2 0 9) (h3 : mm_ar f_0 0 9) (h4 : mm_rg i_13 (-2147483648) 210) (h5 : mm_ar f_1 0 9) (h6 : mm_rg i_16 (-2147483648) 210) (h7 : mm_ar f_2 0 9) (h8 : mm_rg i_19 (-2147483648) 210) (h9 : mm_ar f_3 0 9)  : mm_CI l yX10_daysOfMeaning (mm_ws yX10_daysOfMeaning cX10_daysOfMeaning 6 (some .int)) ({ frames := 2, cells := 0, slots := 0, locals := 45 } : Room) G cy sz [(a_0, .inr (10, [.ref a_1, .ref a_2])), (a_1, .inr (0, [.int i_3, .int i_4, .int i_5, .int i_6, .int i_7, .int i_8, .int i_9, .int i_10, .ref a_3, .ref a_4, .ref a_5, .ref a_6, .ref a_7, .ref a_8, .ref a_9, .ref a_10, .ref a_11, .ref a_12])), (a_9, .inl (cy 1, 30, .inl f_0)), (a_2, .inl (cy 5, 3, .inr (.inr (.inr (.inr (va_up (va_up (va_up (fun _ => none) 0 (some a_13)) 1 (some a_14)) 2 (some a_15))))))), (a_13, .inr (1, [.ref a_16, .ref a_17, .int i_11, .int i_12, .int i_13])), (a_16, .inl (cy 1, 2100, .inl f_1)), (a_14, .inr (1, [.ref a_18, .ref a_19, .int i_14, .int i_15, .int i_16])), (a_18, .inl (cy 1, 2100, .inl f_2)), (a_15, .inr (1, [.ref a_20, .ref a_21, .int i_17, .int i_18, .int i_19])), (a_20, .inl (cy 1, 2100, .inl f_3))] [.ref a_0, .int i_0, .int i_1, .int i_2] (fun u : Unit => [(a_0, .inr (10, [.ref a_1, .ref a_2])), (a_1, .inr (0, [.int i_3, .int i_4, .int i_5, .int i_6, .int i_7, .int i_8, .int i_9, .int i_10, .ref a_3, .ref a_4, .ref a_5, .ref a_6, .ref a_7, .ref a_8, .ref a_9, .ref a_10, .ref a_11, .ref a_12])), (a_9, .inl (cy 1, 30, .inl f_0)), (a_2, .inl (cy 5, 3, .inr (.inr (.inr (.inr (va_up (va_up (va_up (fun _ => none) 0 (some a_13)) 1 (some a_14)) 2 (some a_15))))))), (a_13, .inr (1, [.ref a_16, .ref a_17, .int i_11, .int i_12, .int i_13])), (a_16, .inl (cy 1, 2100, .inl f_1)), (a_14, .inr (1, [.ref a_18, .ref a_19, .int i_14, .int i_15, .int i_16])), (a_18, .inl (cy 1, 2100, .inl f_2)), (a_15, .inr (1, [.ref a_20, .ref a_21, .int i_17, .int i_18, .int i_19])), (a_20, .inl (cy 1, 2100, .inl f_3))]) (fun (r : Int32) (u : Unit) => True) 0 0 := by
  refine mm_begin (lv := [(0, .ref a_0), (1, .int i_0), (2, .int i_1), (3, .int i_2)]) (by decide) (Nat.le_of_ble_eq_true rfl) rfl ?_
  intro p e s m below meth c A ls R args Q H locs hRe hQ hAe hx hb hr hlocks hml hown hnm hts hsz hA hS hP hK hD hZ hl
  have hRf : R.frames = 2 := by rw [hRe]
  have hRl : R.locals = 45 := by rw [hRe]
  have hRc : R.cells = 0 := by rw [hRe]
  have hRs : R.slots = 0 := by rw [hRe]
  refine lv_iconst (v := 0) hx hb dX10_daysOfMeaning_0 (by decide) ?_
  refine lv_istore (lv' := [(4, .int 0), (0, .ref a_0), (1, .int i_0), (2, .int i_1), (3, .int i_2)]) hx hb dX10_daysOfMeaning_1 hl (by decide) rfl ?_
  clear hl
  clear ls
  intro ls hl
  refine lv_iconst (v := 0) hx hb dX10_daysOfMeaning_3 (by decide) ?_
  refine lv_istore (lv' := [(5, .int 0), (4, .int 0), (0, .ref a_0), (1, .int i_0), (2, .int i_1), (3, .int i_2)]) hx hb dX10_daysOfMeaning_4 hl (by decide) rfl ?_
  clear hl
  clear ls
  intro ls hl
  have L6_263 : ∀ (n : Nat) (x6_5_262 : Int32) (x6_4_263 : Int32), mm_rg x6_5_262 0 210 → (210 - x6_5_262.toInt).toNat < n → ∀ (H : Heap) (locs : List Loc), va_P G vwCl [(a_0, .inr (10, [.ref a_1, .ref a_2])), (a_1, .inr (0, [.int i_3, .int i_4, .int i_5, .int i_6, .int i_7, .int i_8, .int i_9, .int i_10, .ref a_3, .ref a_4, .ref a_5, .ref a_6, .ref a_7, .ref a_8, .ref a_9, .ref a_10, .ref a_11, .ref a_12])), (a_9, .inl (cy 1, 30, .inl f_0)), (a_2, .inl (cy 5, 3, .inr (.inr (.inr (.inr (va_up (va_up (va_up (fun _ => none) 0 (some a_13)) 1 (some a_14)) 2 (some a_15))))))), (a_13, .inr (1, [.ref a_16, .ref a_17, .int i_11, .int i_12, .int i_13])), (a_16, .inl (cy 1, 2100, .inl f_1)), (a_14, .inr (1, [.ref a_18, .ref a_19, .int i_14, .int i_15, .int i_16])), (a_18, .inl (cy 1, 2100, .inl f_2)), (a_15, .inr (1, [.ref a_20, .ref a_21, .int i_17, .int i_18, .int i_19])), (a_20, .inl (cy 1, 2100, .inl f_3))] H → va_D A [(a_0, .inr (10, [.ref a_1, .ref a_2])), (a_1, .inr (0, [.int i_3, .int i_4, .int i_5, .int i_6, .int i_7, .int i_8, .int i_9, .int i_10, .ref a_3, .ref a_4, .ref a_5, .ref a_6, .ref a_7, .ref a_8, .ref a_9, .ref a_10, .ref a_11, .ref a_12])), (a_9, .inl (cy 1, 30, .inl f_0)), (a_2, .inl (cy 5, 3, .inr (.inr (.inr (.inr (va_up (va_up (va_up (fun _ => none) 0 (some a_13)) 1 (some a_14)) 2 (some a_15))))))), (a_13, .inr (1, [.ref a_16, .ref a_17, .int i_11, .int i_12, .int i_13])), (a_16, .inl (cy 1, 2100, .inl f_1)), (a_14, .inr (1, [.ref a_18, .ref a_19, .int i_14, .int i_15, .int i_16])), (a_18, .inl (cy 1, 2100, .inl f_2)), (a_15, .inr (1, [.ref a_20, .ref a_21, .int i_17, .int i_18, .int i_19])), (a_20, .inl (cy 1, 2100, .inl f_3))] → va_S A s.heap H locs → ∀ (ls : Array Slot), lv_has ls 6 [(5, .int x6_5_262), (4, .int x6_4_263), (0, .ref a_0), (1, .int i_0), (2, .int i_1), (3, .int i_2)] → W p l e R s m args below meth c H locs 0 0 Q (F0 m 6 ls []) := by
    intro n
    induction n with
    | zero => intro x6_5_262 x6_4_263 rx6_5_262 hm; exact absurd hm (Nat.not_lt_zero _)
    | succ n ih6 =>
      intro x6_5_262 x6_4_263 rx6_5_262 hm6 H locs hP hD hS ls hl
      refine lv_iload hx hb dX10_daysOfMeaning_6 (lv_at hl 0 rfl) ?_
      refine lv_aload_n hx hb dX10_daysOfMeaning_8 rfl (lv_at hl 2 rfl) ?_
      refine lv_iload_n hx hb dX10_daysOfMeaning_9 rfl (lv_at hl 3 rfl) ?_
      refine mm_finir (va_runV (As := [.int i_0]) (rest := [.int x6_5_262]) ⟨hx, hb, hml, hown, hts⟩ (K360_X10_period l G cy H.size a_0 i_0 a_1 a_2 a_13 a_14 a_15 a_16 a_17 i_11 i_12 i_13 a_18 a_19 i_14 i_15 i_16 a_20 a_21 i_17 i_18 i_19 h0 h4 h6 h8) (cwV 1 hts (mm_gV mm_w768 mm_w744 mm_w745 mm_w23 mm_w746) rfl rfl rfl hd_X10_period ⟨by rw [hRf]; exact Nat.le_of_ble_eq_true rfl, by rw [hRl]; exact Nat.le_of_ble_eq_true rfl⟩) (mm_preV hK hZ hS hA hP hD [0, 3, 4, 6, 8] rfl rfl 0 rfl rfl rfl) rfl rfl hl.1 rfl (lv_room (Nat.le_of_ble_eq_true rfl)) dX10_daysOfMeaning_10 ⟨by rw [hRc]; exact Nat.le_of_ble_eq_true rfl, by rw [hRs]; exact Nat.le_of_ble_eq_true rfl⟩) hP hD hS hA [0, 3, 4, 6, 8] rfl (fun _ => rfl) ?_
      clear hP hD hS
      clear H locs
      intro v265 _u H locs hw hP hD hS
      have w266 := hw
      refine lv_icmp_ge (tgt := 37) hx hb dX10_daysOfMeaning_13 (by decide) (fun c267 => ?_) (fun c267 => ?_)
      · refine lv_iload hx hb dX10_daysOfMeaning_37 (lv_at hl 1 rfl) ?_
        subst hAe
        rw [hQ]
        exact W.iret (v := x6_4_263) hx hb hr (fun t ht hW => ⟨⟨x6_4_263, (), rfl, trivial, by rw [ht]; exact hP, hK.warm hW, hD⟩, hS.F ht⟩) hS.2.2 dX10_daysOfMeaning_39
      · have q268 := mm_ltL (h := 209) (mm_nle c267) rx6_5_262 w266 (by decide)
        have q269 := mm_ltR (lo := 1) (mm_nle c267) rx6_5_262 w266 (by decide)
        refine lv_aload_n hx hb dX10_daysOfMeaning_16 rfl (lv_at hl 2 rfl) ?_
        refine lv_iload_n hx hb dX10_daysOfMeaning_17 rfl (lv_at hl 3 rfl) ?_
        refine lv_iload hx hb dX10_daysOfMeaning_18 (lv_at hl 0 rfl) ?_
        refine lv_iload_n hx hb dX10_daysOfMeaning_20 rfl (lv_at hl 4 rfl) ?_
        refine mm_finir (va_runV (As := [.int i_0, .int x6_5_262, .int i_1]) (rest := []) ⟨hx, hb, hml, hown, hts⟩ (K355_X10_meaning l G cy H.size a_0 i_0 x6_5_262 i_1 a_1 a_2 i_3 i_4 i_5 i_6 i_7 i_8 i_9 i_10 a_3 a_4 a_5 a_6 a_7 a_8 a_9 a_10 a_11 a_12 f_0 a_13 a_14 a_15 a_16 a_17 i_11 i_12 i_13 f_1 a_18 a_19 i_14 i_15 i_16 f_2 a_20 a_21 i_17 i_18 i_19 f_3 h0 (mm_wk q268 (by decide)) h1 h3 h4 h5 h6 h7 h8 h9) (cwV 3 hts (mm_gV mm_w730 mm_w666 mm_w667 mm_w23 mm_w668) rfl rfl rfl hd_X10_meaning ⟨by rw [hRf]; exact Nat.le_of_ble_eq_true rfl, by rw [hRl]; exact Nat.le_of_ble_eq_true rfl⟩) (mm_preV hK hZ hS hA hP hD [0, 1, 2, 3, 4, 5, 6, 7, 8, 9] rfl rfl 0 rfl rfl rfl) rfl rfl hl.1 rfl (lv_room (Nat.le_of_ble_eq_true rfl)) dX10_daysOfMeaning_21 ⟨by rw [hRc]; exact Nat.le_of_ble_eq_true rfl, by rw [hRs]; exact Nat.le_of_ble_eq_true rfl⟩) hP hD hS hA [0, 1, 2, 3, 4, 5, 6, 7, 8, 9] rfl (fun _ => rfl) ?_
        clear hP hD hS
        clear H locs
        intro v270 _u H locs hw hP hD hS
        have w271 := hw
        refine lv_iload_n hx hb dX10_daysOfMeaning_24 rfl (lv_at hl 5 rfl) ?_
        refine lv_icmp_ne (tgt := 31) hx hb dX10_daysOfMeaning_25 (by decide) (fun c272 => ?_) (fun c272 => ?_)
        · obtain ⟨v273, ev273⟩ : ∃ y : Int32, y = x6_5_262 + 1 := ⟨_, rfl⟩
          refine lv_iinc (v := v273) (lv' := [(5, .int v273), (4, .int x6_4_263), (0, .ref a_0), (1, .int i_0), (2, .int i_1), (3, .int i_2)]) hx hb dX10_daysOfMeaning_31 hl (k := 0) rfl (by rw [ev273]; rfl) (by decide) rfl ?_
          clear hl
          clear ls
          intro ls hl
          have rv273 : mm_rg v273 1 210 := mm_add ev273 q268 mm_k1 (by decide) (by decide)
          have tv273 := mm_addEc ev273 q268 mm_k1 (by decide) (k := 1) (by decide)
          refine lv_goto (tgt := 6) hx hb dX10_daysOfMeaning_34 (by decide) ?_
          exact ih6 v273 x6_4_263 (mm_wk rv273 (by decide)) (mm_mu hm6 tv273 (by decide) (rv273).2 (by decide)) H locs hP hD hS ls (lv_sub hl [0, 1, 2, 3, 4, 5] rfl)
        · obtain ⟨v274, ev274⟩ : ∃ y : Int32, y = x6_4_263 + 1 := ⟨_, rfl⟩
          refine lv_iinc (v := v274) (lv' := [(4, .int v274), (5, .int x6_5_262), (0, .ref a_0), (1, .int i_0), (2, .int i_1), (3, .int i_2)]) hx hb dX10_daysOfMeaning_28 hl (k := 1) rfl (by rw [ev274]; rfl) (by decide) rfl ?_
          clear hl
          clear ls
          intro ls hl
          obtain ⟨v275, ev275⟩ : ∃ y : Int32, y = x6_5_262 + 1 := ⟨_, rfl⟩
          refine lv_iinc (v := v275) (lv' := [(5, .int v275), (4, .int v274), (0, .ref a_0), (1, .int i_0), (2, .int i_1), (3, .int i_2)]) hx hb dX10_daysOfMeaning_31 hl (k := 1) rfl (by rw [ev275]; rfl) (by decide) rfl ?_
          clear hl
          clear ls
          intro ls hl
          have rv275 : mm_rg v275 1 210 := mm_add ev275 q268 mm_k1 (by decide) (by decide)
          have tv275 := mm_addEc ev275 q268 mm_k1 (by decide) (k := 1) (by decide)
          refine lv_goto (tgt := 6) hx hb dX10_daysOfMeaning_34 (by decide) ?_
          exact ih6 v275 v274 (mm_wk rv275 (by decide)) (mm_mu hm6 tv275 (by decide) (rv275).2 (by decide)) H locs hP hD hS ls (lv_sub hl [0, 1, 2, 3, 4, 5] rfl)
  exact L6_263 _ 0 0 (mm_wk mm_k0 (by decide)) (Nat.lt_succ_self _) H locs hP hD hS ls (lv_sub hl [0, 1, 2, 3, 4, 5] rfl)

set_option maxHeartbeats 4000000 in
set_option maxRecDepth 100000 in
theorem K364_X11_often (l : Launch) (G : va_G) (cy : Nat → ClassId) (sz : Nat) (a_0 : Nat) (i_0 : Int32) (i_1 : Int32) (i_2 : Int32) (a_1 : Nat) (a_2 : Nat) (a_3 : Nat) (a_4 : Nat) (a_5 : Nat) (a_6 : Nat) (a_7 : Nat) (a_8 : Nat) (a_9 : Nat) (a_10 : Nat) (a_11 : Nat) (a_12 : Nat) (a_13 : Nat) (i_3 : Int32) (i_4 : Int32) (i_5 : Int32) (i_6 : Int32) (i_7 : Int32) (i_8 : Int32) (i_9 : Int32) (i_10 : Int32) (a_14 : Nat) (a_15 : Nat) (a_16 : Nat) (a_17 : Nat) (a_18 : Nat) (a_19 : Nat) (a_20 : Nat) (a_21 : Nat) (a_22 : Nat) (a_23 : Nat) (f_0 : Nat → Int32) (a_24 : Nat) (a_25 : Nat) (a_26 : Nat) (a_27 : Nat) (a_28 : Nat) (i_11 : Int32) (i_12 : Int32) (i_13 : Int32) (f_1 : Nat → Int32) (a_29 : Nat) (a_30 : Nat) (i_14 : Int32) (i_15 : Int32) (i_16 : Int32) (f_2 : Nat → Int32) (a_31 : Nat) (a_32 : Nat) (i_17 : Int32) (i_18 : Int32) (i_19 : Int32) (f_3 : Nat → Int32) (h0 : mm_rg i_7 0 9) (h1 : mm_rg i_8 0 3) (h2 : mm_ar f_0 0 9) (h3 : mm_rg i_13 (-2147483648) 210) (h4 : mm_ar f_1 0 9) (h5 : mm_rg i_16 (-2147483648) 210) (h6 : mm_ar f_2 0 9) (h7 : mm_rg i_19 (-2147483648) 210) (h8 : mm_ar f_3 0 9)  : mm_CI l yX11_often (mm_ws yX11_often cX11_often 4 (some .int)) ({ frames := 3, cells := 0, slots := 0, locals := 70 } : Room) G cy sz [(a_0, .inr (11, [.ref a_1, .ref a_2, .ref a_3, .ref a_4, .ref a_5, .ref a_6, .ref a_7, .ref a_8, .ref a_9, .ref a_10, .ref a_11])), (a_3, .inr (10, [.ref a_12, .ref a_13])), (a_12, .inr (0, [.int i_3, .int i_4, .int i_5, .int i_6, .int i_7, .int i_8, .int i_9, .int i_10, .ref a_14, .ref a_15, .ref a_16, .ref a_17, .ref a_18, .ref a_19, .ref a_20, .ref a_21, .ref a_22, .ref a_23])), (a_20, .inl (cy 1, 30, .inl f_0)), (a_13, .inl (cy 5, 3, .inr (.inr (.inr (.inr (va_up (va_up (va_up (fun _ => none) 0 (some a_24)) 1 (some a_25)) 2 (some a_26))))))), (a_24, .inr (1, [.ref a_27, .ref a_28, .int i_11, .int i_12, .int i_13])), (a_27, .inl (cy 1, 2100, .inl f_1)), (a_25, .inr (1, [.ref a_29, .ref a_30, .int i_14, .int i_15, .int i_16])), (a_29, .inl (cy 1, 2100, .inl f_2)), (a_26, .inr (1, [.ref a_31, .ref a_32, .int i_17, .int i_18, .int i_19])), (a_31, .inl (cy 1, 2100, .inl f_3))] [.ref a_0, .int i_0, .int i_1, .int i_2] (fun u : Unit => [(a_0, .inr (11, [.ref a_1, .ref a_2, .ref a_3, .ref a_4, .ref a_5, .ref a_6, .ref a_7, .ref a_8, .ref a_9, .ref a_10, .ref a_11])), (a_3, .inr (10, [.ref a_12, .ref a_13])), (a_12, .inr (0, [.int i_3, .int i_4, .int i_5, .int i_6, .int i_7, .int i_8, .int i_9, .int i_10, .ref a_14, .ref a_15, .ref a_16, .ref a_17, .ref a_18, .ref a_19, .ref a_20, .ref a_21, .ref a_22, .ref a_23])), (a_20, .inl (cy 1, 30, .inl f_0)), (a_13, .inl (cy 5, 3, .inr (.inr (.inr (.inr (va_up (va_up (va_up (fun _ => none) 0 (some a_24)) 1 (some a_25)) 2 (some a_26))))))), (a_24, .inr (1, [.ref a_27, .ref a_28, .int i_11, .int i_12, .int i_13])), (a_27, .inl (cy 1, 2100, .inl f_1)), (a_25, .inr (1, [.ref a_29, .ref a_30, .int i_14, .int i_15, .int i_16])), (a_29, .inl (cy 1, 2100, .inl f_2)), (a_26, .inr (1, [.ref a_31, .ref a_32, .int i_17, .int i_18, .int i_19])), (a_31, .inl (cy 1, 2100, .inl f_3))]) (fun (r : Int32) (u : Unit) => True) 0 0 := by
  refine mm_begin (lv := [(0, .ref a_0), (1, .int i_0), (2, .int i_1), (3, .int i_2)]) (by decide) (Nat.le_of_ble_eq_true rfl) rfl ?_
  intro p e s m below meth c A ls R args Q H locs hRe hQ hAe hx hb hr hlocks hml hown hnm hts hsz hA hS hP hK hD hZ hl
  have hRf : R.frames = 3 := by rw [hRe]
  have hRl : R.locals = 70 := by rw [hRe]
  have hRc : R.cells = 0 := by rw [hRe]
  have hRs : R.slots = 0 := by rw [hRe]
  refine lv_aload_n hx hb dX11_often_0 rfl (lv_at hl 0 rfl) ?_
  refine lv_iload_n hx hb dX11_often_1 rfl (lv_at hl 1 rfl) ?_
  refine mm_finir (va_runV (As := [.int i_0]) (rest := []) ⟨hx, hb, hml, hown, hts⟩ (K350_X11_isLand l G cy H.size a_0 i_0 a_1 a_2 a_3 a_4 a_5 a_6 a_7 a_8 a_9 a_10 a_11 a_12 a_13 i_3 i_4 i_5 i_6 i_7 i_8 i_9 i_10 a_14 a_15 a_16 a_17 a_18 a_19 a_20 a_21 a_22 a_23 h1) (cwV 1 hts (mm_gV mm_w626 mm_w627 mm_w628 mm_w2 mm_w629) rfl rfl rfl hd_X11_isLand ⟨by rw [hRf]; exact Nat.le_of_ble_eq_true rfl, by rw [hRl]; exact Nat.le_of_ble_eq_true rfl⟩) (mm_preV hK hZ hS hA hP hD [0, 1, 2] rfl rfl 0 rfl rfl rfl) rfl rfl hl.1 rfl (lv_room (Nat.le_of_ble_eq_true rfl)) dX11_often_2 ⟨by rw [hRc]; exact Nat.le_of_ble_eq_true rfl, by rw [hRs]; exact Nat.le_of_ble_eq_true rfl⟩) hP hD hS hA [0, 1, 2] rfl (fun _ => rfl) ?_
  clear hP hD hS
  clear H locs
  intro v1 _u H locs hw hP hD hS
  rcases hw with ⟨rfl, w2⟩ | ⟨rfl, w3⟩
  · refine lv_if_eq (tgt := 24) hx hb dX11_often_5 (by decide) (fun c4 => ?_) (fun c4 => ?_)
    · refine lv_bipush (v := (-2)) hx hb dX11_often_24 (by decide) ?_
      subst hAe
      rw [hQ]
      exact W.iret (v := (-2)) hx hb hr (fun t ht hW => ⟨⟨(-2), (), rfl, trivial, by rw [ht]; exact hP, hK.warm hW, hD⟩, hS.F ht⟩) hS.2.2 dX11_often_26
    · have q5 := mm_neL (lo := 1) (mm_ne c4) mm_k0 mm_k0 (by decide) (by decide)
      exact mm_no q5 (by decide)
  · refine lv_if_eq (tgt := 24) hx hb dX11_often_5 (by decide) (fun c6 => ?_) (fun c6 => ?_)
    · exact mm_eqN c6.symm mm_k0 mm_k1 (by decide)
    · refine lv_aload_n hx hb dX11_often_8 rfl (lv_at hl 0 rfl) ?_
      refine lv_iload_n hx hb dX11_often_9 rfl (lv_at hl 2 rfl) ?_
      refine mm_finir (va_runV (As := [.int i_1]) (rest := []) ⟨hx, hb, hml, hown, hts⟩ (K351_X11_isWord l G cy H.size a_0 i_1 a_1 a_2 a_3 a_4 a_5 a_6 a_7 a_8 a_9 a_10 a_11 a_12 a_13 i_3 i_4 i_5 i_6 i_7 i_8 i_9 i_10 a_14 a_15 a_16 a_17 a_18 a_19 a_20 a_21 a_22 a_23 h0) (cwV 1 hts (mm_gV mm_w631 mm_w632 mm_w633 mm_w2 mm_w634) rfl rfl rfl hd_X11_isWord ⟨by rw [hRf]; exact Nat.le_of_ble_eq_true rfl, by rw [hRl]; exact Nat.le_of_ble_eq_true rfl⟩) (mm_preV hK hZ hS hA hP hD [0, 1, 2] rfl rfl 0 rfl rfl rfl) rfl rfl hl.1 rfl (lv_room (Nat.le_of_ble_eq_true rfl)) dX11_often_10 ⟨by rw [hRc]; exact Nat.le_of_ble_eq_true rfl, by rw [hRs]; exact Nat.le_of_ble_eq_true rfl⟩) hP hD hS hA [0, 1, 2] rfl (fun _ => rfl) ?_
      clear hP hD hS
      clear H locs
      intro v7 _u H locs hw hP hD hS
      rcases hw with ⟨rfl, w8⟩ | ⟨rfl, w9⟩
      · refine lv_if_eq (tgt := 24) hx hb dX11_often_13 (by decide) (fun c10 => ?_) (fun c10 => ?_)
        · refine lv_bipush (v := (-2)) hx hb dX11_often_24 (by decide) ?_
          subst hAe
          rw [hQ]
          exact W.iret (v := (-2)) hx hb hr (fun t ht hW => ⟨⟨(-2), (), rfl, trivial, by rw [ht]; exact hP, hK.warm hW, hD⟩, hS.F ht⟩) hS.2.2 dX11_often_26
        · have q11 := mm_neL (lo := 1) (mm_ne c10) mm_k0 mm_k0 (by decide) (by decide)
          exact mm_no q11 (by decide)
      · refine lv_if_eq (tgt := 24) hx hb dX11_often_13 (by decide) (fun c12 => ?_) (fun c12 => ?_)
        · exact mm_eqN c12.symm mm_k0 mm_k1 (by decide)
        · refine lv_aload_n hx hb dX11_often_16 rfl (lv_at hl 0 rfl) ?_
          refine lv_iload_n hx hb dX11_often_17 rfl (lv_at hl 3 rfl) ?_
          refine mm_finir (va_runV (As := [.int i_2]) (rest := []) ⟨hx, hb, hml, hown, hts⟩ (K357_X11_isMeaning l G cy H.size a_0 i_2 a_1 a_2 a_3 a_4 a_5 a_6 a_7 a_8 a_9 a_10 a_11 a_12 a_13 i_3 i_4 i_5 i_6 i_7 i_8 i_9 i_10 a_14 a_15 a_16 a_17 a_18 a_19 a_20 a_21 a_22 a_23 h0) (cwV 1 hts (mm_gV mm_w721 mm_w722 mm_w723 mm_w2 mm_w724) rfl rfl rfl hd_X11_isMeaning ⟨by rw [hRf]; exact Nat.le_of_ble_eq_true rfl, by rw [hRl]; exact Nat.le_of_ble_eq_true rfl⟩) (mm_preV hK hZ hS hA hP hD [0, 1, 2] rfl rfl 0 rfl rfl rfl) rfl rfl hl.1 rfl (lv_room (Nat.le_of_ble_eq_true rfl)) dX11_often_18 ⟨by rw [hRc]; exact Nat.le_of_ble_eq_true rfl, by rw [hRs]; exact Nat.le_of_ble_eq_true rfl⟩) hP hD hS hA [0, 1, 2] rfl (fun _ => rfl) ?_
          clear hP hD hS
          clear H locs
          intro v13 _u H locs hw hP hD hS
          rcases hw with ⟨rfl, w14⟩ | ⟨rfl, w15⟩
          · refine lv_if_ne (tgt := 27) hx hb dX11_often_21 (by decide) (fun c16 => ?_) (fun c16 => ?_)
            · have q17 := mm_neL (lo := 1) (mm_ne c16) mm_k0 mm_k0 (by decide) (by decide)
              exact mm_no q17 (by decide)
            · refine lv_bipush (v := (-2)) hx hb dX11_often_24 (by decide) ?_
              subst hAe
              rw [hQ]
              exact W.iret (v := (-2)) hx hb hr (fun t ht hW => ⟨⟨(-2), (), rfl, trivial, by rw [ht]; exact hP, hK.warm hW, hD⟩, hS.F ht⟩) hS.2.2 dX11_often_26
          · refine lv_if_ne (tgt := 27) hx hb dX11_often_21 (by decide) (fun c18 => ?_) (fun c18 => ?_)
            · refine lv_aload_n hx hb dX11_often_27 rfl (lv_at hl 0 rfl) ?_
              refine va_get (D := G) (ci := 11) (v := .ref a_3) (C := RX11) (T := TX11) (N := 11) hx hb hts (mm_i inlX11) hown hK.1 hP 0 rfl rfl 2 (by decide) (mm_h hts mm_w24) (fun _ h9 => h9) rfl dX11_often_28 ?_
              refine lv_iload_n hx hb dX11_often_31 rfl (lv_at hl 1 rfl) ?_
              refine lv_iload_n hx hb dX11_often_32 rfl (lv_at hl 2 rfl) ?_
              refine lv_iload_n hx hb dX11_often_33 rfl (lv_at hl 3 rfl) ?_
              refine mm_finir (va_runV (As := [.int i_0, .int i_1, .int i_2]) (rest := []) ⟨hx, hb, hml, hown, hts⟩ (K363_X10_daysOfMeaning l G cy H.size a_3 i_0 i_1 i_2 a_12 a_13 i_3 i_4 i_5 i_6 i_7 i_8 i_9 i_10 a_14 a_15 a_16 a_17 a_18 a_19 a_20 a_21 a_22 a_23 f_0 a_24 a_25 a_26 a_27 a_28 i_11 i_12 i_13 f_1 a_29 a_30 i_14 i_15 i_16 f_2 a_31 a_32 i_17 i_18 i_19 f_3 w3 w9 w15 h2 h3 h4 h5 h6 h7 h8) (cwV 3 hts (mm_gV mm_w764 mm_w765 mm_w766 mm_w23 mm_w767) rfl rfl rfl hd_X10_daysOfMeaning ⟨by rw [hRf]; exact Nat.le_of_ble_eq_true rfl, by rw [hRl]; exact Nat.le_of_ble_eq_true rfl⟩) (mm_preV hK hZ hS hA hP hD [1, 2, 3, 4, 5, 6, 7, 8, 9, 10] rfl rfl 1 rfl rfl rfl) rfl rfl hl.1 rfl (lv_room (Nat.le_of_ble_eq_true rfl)) dX11_often_34 ⟨by rw [hRc]; exact Nat.le_of_ble_eq_true rfl, by rw [hRs]; exact Nat.le_of_ble_eq_true rfl⟩) hP hD hS hA [1, 2, 3, 4, 5, 6, 7, 8, 9, 10] rfl (fun _ => rfl) ?_
              clear hP hD hS
              clear H locs
              intro v19 _u H locs hw hP hD hS
              subst hAe
              rw [hQ]
              exact W.iret (v := v19) hx hb hr (fun t ht hW => ⟨⟨v19, (), rfl, trivial, by rw [ht]; exact hP, hK.warm hW, hD⟩, hS.F ht⟩) hS.2.2 dX11_often_37
            · exact mm_eqN c18.symm mm_k0 mm_k1 (by decide)

set_option maxHeartbeats 4000000 in
set_option maxRecDepth 100000 in
theorem K365_X11_may (l : Launch) (G : va_G) (cy : Nat → ClassId) (sz : Nat) (a_0 : Nat) (i_0 : Int32) (i_1 : Int32) (a_1 : Nat) (a_2 : Nat) (a_3 : Nat) (a_4 : Nat) (a_5 : Nat) (a_6 : Nat) (a_7 : Nat) (a_8 : Nat) (a_9 : Nat) (a_10 : Nat) (a_11 : Nat) (a_12 : Nat) (a_13 : Nat) (i_2 : Int32) (i_3 : Int32) (i_4 : Int32) (i_5 : Int32) (i_6 : Int32) (i_7 : Int32) (i_8 : Int32) (i_9 : Int32) (a_14 : Nat) (a_15 : Nat) (a_16 : Nat) (a_17 : Nat) (a_18 : Nat) (a_19 : Nat) (a_20 : Nat) (a_21 : Nat) (a_22 : Nat) (a_23 : Nat) (f_0 : Nat → Int32) (a_24 : Nat) (a_25 : Nat) (a_26 : Nat) (a_27 : Nat) (a_28 : Nat) (i_10 : Int32) (i_11 : Int32) (i_12 : Int32) (f_1 : Nat → Int32) (a_29 : Nat) (a_30 : Nat) (i_13 : Int32) (i_14 : Int32) (i_15 : Int32) (f_2 : Nat → Int32) (a_31 : Nat) (a_32 : Nat) (i_16 : Int32) (i_17 : Int32) (i_18 : Int32) (f_3 : Nat → Int32) (h0 : mm_rg i_6 0 9) (h1 : mm_rg i_7 0 3) (h2 : mm_ar f_0 0 9) (h3 : mm_rg i_12 (-2147483648) 210) (h4 : mm_ar f_1 0 9) (h5 : mm_rg i_15 (-2147483648) 210) (h6 : mm_ar f_2 0 9) (h7 : mm_rg i_18 (-2147483648) 210) (h8 : mm_ar f_3 0 9)  : mm_CI l yX11_may (mm_ws yX11_may cX11_may 6 (some .int)) ({ frames := 3, cells := 0, slots := 0, locals := 70 } : Room) G cy sz [(a_0, .inr (11, [.ref a_1, .ref a_2, .ref a_3, .ref a_4, .ref a_5, .ref a_6, .ref a_7, .ref a_8, .ref a_9, .ref a_10, .ref a_11])), (a_3, .inr (10, [.ref a_12, .ref a_13])), (a_12, .inr (0, [.int i_2, .int i_3, .int i_4, .int i_5, .int i_6, .int i_7, .int i_8, .int i_9, .ref a_14, .ref a_15, .ref a_16, .ref a_17, .ref a_18, .ref a_19, .ref a_20, .ref a_21, .ref a_22, .ref a_23])), (a_20, .inl (cy 1, 30, .inl f_0)), (a_13, .inl (cy 5, 3, .inr (.inr (.inr (.inr (va_up (va_up (va_up (fun _ => none) 0 (some a_24)) 1 (some a_25)) 2 (some a_26))))))), (a_24, .inr (1, [.ref a_27, .ref a_28, .int i_10, .int i_11, .int i_12])), (a_27, .inl (cy 1, 2100, .inl f_1)), (a_25, .inr (1, [.ref a_29, .ref a_30, .int i_13, .int i_14, .int i_15])), (a_29, .inl (cy 1, 2100, .inl f_2)), (a_26, .inr (1, [.ref a_31, .ref a_32, .int i_16, .int i_17, .int i_18])), (a_31, .inl (cy 1, 2100, .inl f_3))] [.ref a_0, .int i_0, .int i_1] (fun u : Unit => [(a_0, .inr (11, [.ref a_1, .ref a_2, .ref a_3, .ref a_4, .ref a_5, .ref a_6, .ref a_7, .ref a_8, .ref a_9, .ref a_10, .ref a_11])), (a_3, .inr (10, [.ref a_12, .ref a_13])), (a_12, .inr (0, [.int i_2, .int i_3, .int i_4, .int i_5, .int i_6, .int i_7, .int i_8, .int i_9, .ref a_14, .ref a_15, .ref a_16, .ref a_17, .ref a_18, .ref a_19, .ref a_20, .ref a_21, .ref a_22, .ref a_23])), (a_20, .inl (cy 1, 30, .inl f_0)), (a_13, .inl (cy 5, 3, .inr (.inr (.inr (.inr (va_up (va_up (va_up (fun _ => none) 0 (some a_24)) 1 (some a_25)) 2 (some a_26))))))), (a_24, .inr (1, [.ref a_27, .ref a_28, .int i_10, .int i_11, .int i_12])), (a_27, .inl (cy 1, 2100, .inl f_1)), (a_25, .inr (1, [.ref a_29, .ref a_30, .int i_13, .int i_14, .int i_15])), (a_29, .inl (cy 1, 2100, .inl f_2)), (a_26, .inr (1, [.ref a_31, .ref a_32, .int i_16, .int i_17, .int i_18])), (a_31, .inl (cy 1, 2100, .inl f_3))]) (fun (r : Int32) (u : Unit) => mm_rg r (-2) 1023) 0 0 := by
  refine mm_begin (lv := [(0, .ref a_0), (1, .int i_0), (2, .int i_1)]) (by decide) (Nat.le_of_ble_eq_true rfl) rfl ?_
  intro p e s m below meth c A ls R args Q H locs hRe hQ hAe hx hb hr hlocks hml hown hnm hts hsz hA hS hP hK hD hZ hl
  have hRf : R.frames = 3 := by rw [hRe]
  have hRl : R.locals = 70 := by rw [hRe]
  have hRc : R.cells = 0 := by rw [hRe]
  have hRs : R.slots = 0 := by rw [hRe]
  refine lv_aload_n hx hb dX11_may_0 rfl (lv_at hl 0 rfl) ?_
  refine lv_iload_n hx hb dX11_may_1 rfl (lv_at hl 1 rfl) ?_
  refine mm_finir (va_runV (As := [.int i_0]) (rest := []) ⟨hx, hb, hml, hown, hts⟩ (K350_X11_isLand l G cy H.size a_0 i_0 a_1 a_2 a_3 a_4 a_5 a_6 a_7 a_8 a_9 a_10 a_11 a_12 a_13 i_2 i_3 i_4 i_5 i_6 i_7 i_8 i_9 a_14 a_15 a_16 a_17 a_18 a_19 a_20 a_21 a_22 a_23 h1) (cwV 1 hts (mm_gV mm_w626 mm_w627 mm_w628 mm_w2 mm_w629) rfl rfl rfl hd_X11_isLand ⟨by rw [hRf]; exact Nat.le_of_ble_eq_true rfl, by rw [hRl]; exact Nat.le_of_ble_eq_true rfl⟩) (mm_preV hK hZ hS hA hP hD [0, 1, 2] rfl rfl 0 rfl rfl rfl) rfl rfl hl.1 rfl (lv_room (Nat.le_of_ble_eq_true rfl)) dX11_may_2 ⟨by rw [hRc]; exact Nat.le_of_ble_eq_true rfl, by rw [hRs]; exact Nat.le_of_ble_eq_true rfl⟩) hP hD hS hA [0, 1, 2] rfl (fun _ => rfl) ?_
  clear hP hD hS
  clear H locs
  intro v1 _u H locs hw hP hD hS
  rcases hw with ⟨rfl, w2⟩ | ⟨rfl, w3⟩
  · refine lv_if_eq (tgt := 16) hx hb dX11_may_5 (by decide) (fun c4 => ?_) (fun c4 => ?_)
    · refine lv_bipush (v := (-2)) hx hb dX11_may_16 (by decide) ?_
      subst hAe
      rw [hQ]
      exact W.iret (v := (-2)) hx hb hr (fun t ht hW => ⟨⟨(-2), (), rfl, (mm_wk mm_km2 (by decide)), by rw [ht]; exact hP, hK.warm hW, hD⟩, hS.F ht⟩) hS.2.2 dX11_may_18
    · have q5 := mm_neL (lo := 1) (mm_ne c4) mm_k0 mm_k0 (by decide) (by decide)
      exact mm_no q5 (by decide)
  · refine lv_if_eq (tgt := 16) hx hb dX11_may_5 (by decide) (fun c6 => ?_) (fun c6 => ?_)
    · exact mm_eqN c6.symm mm_k0 mm_k1 (by decide)
    · refine lv_aload_n hx hb dX11_may_8 rfl (lv_at hl 0 rfl) ?_
      refine lv_iload_n hx hb dX11_may_9 rfl (lv_at hl 2 rfl) ?_
      refine mm_finir (va_runV (As := [.int i_1]) (rest := []) ⟨hx, hb, hml, hown, hts⟩ (K357_X11_isMeaning l G cy H.size a_0 i_1 a_1 a_2 a_3 a_4 a_5 a_6 a_7 a_8 a_9 a_10 a_11 a_12 a_13 i_2 i_3 i_4 i_5 i_6 i_7 i_8 i_9 a_14 a_15 a_16 a_17 a_18 a_19 a_20 a_21 a_22 a_23 h0) (cwV 1 hts (mm_gV mm_w721 mm_w722 mm_w723 mm_w2 mm_w724) rfl rfl rfl hd_X11_isMeaning ⟨by rw [hRf]; exact Nat.le_of_ble_eq_true rfl, by rw [hRl]; exact Nat.le_of_ble_eq_true rfl⟩) (mm_preV hK hZ hS hA hP hD [0, 1, 2] rfl rfl 0 rfl rfl rfl) rfl rfl hl.1 rfl (lv_room (Nat.le_of_ble_eq_true rfl)) dX11_may_10 ⟨by rw [hRc]; exact Nat.le_of_ble_eq_true rfl, by rw [hRs]; exact Nat.le_of_ble_eq_true rfl⟩) hP hD hS hA [0, 1, 2] rfl (fun _ => rfl) ?_
      clear hP hD hS
      clear H locs
      intro v7 _u H locs hw hP hD hS
      rcases hw with ⟨rfl, w8⟩ | ⟨rfl, w9⟩
      · refine lv_if_ne (tgt := 19) hx hb dX11_may_13 (by decide) (fun c10 => ?_) (fun c10 => ?_)
        · have q11 := mm_neL (lo := 1) (mm_ne c10) mm_k0 mm_k0 (by decide) (by decide)
          exact mm_no q11 (by decide)
        · refine lv_bipush (v := (-2)) hx hb dX11_may_16 (by decide) ?_
          subst hAe
          rw [hQ]
          exact W.iret (v := (-2)) hx hb hr (fun t ht hW => ⟨⟨(-2), (), rfl, (mm_wk mm_km2 (by decide)), by rw [ht]; exact hP, hK.warm hW, hD⟩, hS.F ht⟩) hS.2.2 dX11_may_18
      · refine lv_if_ne (tgt := 19) hx hb dX11_may_13 (by decide) (fun c12 => ?_) (fun c12 => ?_)
        · refine lv_iconst (v := 0) hx hb dX11_may_19 (by decide) ?_
          refine lv_istore_n (lv' := [(3, .int 0), (0, .ref a_0), (1, .int i_0), (2, .int i_1)]) hx hb dX11_may_20 rfl hl (by decide) rfl ?_
          clear hl
          clear ls
          intro ls hl
          refine lv_aload_n hx hb dX11_may_21 rfl (lv_at hl 1 rfl) ?_
          refine va_get (D := G) (ci := 11) (v := .ref a_3) (C := RX11) (T := TX11) (N := 11) hx hb hts (mm_i inlX11) hown hK.1 hP 0 rfl rfl 2 (by decide) (mm_h hts mm_w24) (fun _ h9 => h9) rfl dX11_may_22 ?_
          refine lv_iload_n hx hb dX11_may_25 rfl (lv_at hl 2 rfl) ?_
          refine mm_finir (va_runV (As := [.int i_0]) (rest := []) ⟨hx, hb, hml, hown, hts⟩ (K360_X10_period l G cy H.size a_3 i_0 a_12 a_13 a_24 a_25 a_26 a_27 a_28 i_10 i_11 i_12 a_29 a_30 i_13 i_14 i_15 a_31 a_32 i_16 i_17 i_18 w3 h3 h5 h7) (cwV 1 hts (mm_gV mm_w743 mm_w744 mm_w745 mm_w23 mm_w746) rfl rfl rfl hd_X10_period ⟨by rw [hRf]; exact Nat.le_of_ble_eq_true rfl, by rw [hRl]; exact Nat.le_of_ble_eq_true rfl⟩) (mm_preV hK hZ hS hA hP hD [1, 4, 5, 7, 9] rfl rfl 1 rfl rfl rfl) rfl rfl hl.1 rfl (lv_room (Nat.le_of_ble_eq_true rfl)) dX11_may_26 ⟨by rw [hRc]; exact Nat.le_of_ble_eq_true rfl, by rw [hRs]; exact Nat.le_of_ble_eq_true rfl⟩) hP hD hS hA [1, 4, 5, 7, 9] rfl (fun _ => rfl) ?_
          clear hP hD hS
          clear H locs
          intro v13 _u H locs hw hP hD hS
          have w14 := hw
          refine lv_istore (lv' := [(4, .int v13), (3, .int 0), (0, .ref a_0), (1, .int i_0), (2, .int i_1)]) hx hb dX11_may_29 hl (by decide) rfl ?_
          clear hl
          clear ls
          intro ls hl
          refine lv_iconst (v := 0) hx hb dX11_may_31 (by decide) ?_
          refine lv_istore (lv' := [(5, .int 0), (4, .int v13), (3, .int 0), (0, .ref a_0), (1, .int i_0), (2, .int i_1)]) hx hb dX11_may_32 hl (by decide) rfl ?_
          clear hl
          clear ls
          intro ls hl
          have L34_143 : ∀ (n : Nat) (x34_5_142 : Int32) (x34_3_143 : Int32), mm_rg x34_5_142 0 210 → mm_rg x34_3_143 0 1023 → (210 - x34_5_142.toInt).toNat < n → ∀ (H : Heap) (locs : List Loc), va_P G vwCl [(a_0, .inr (11, [.ref a_1, .ref a_2, .ref a_3, .ref a_4, .ref a_5, .ref a_6, .ref a_7, .ref a_8, .ref a_9, .ref a_10, .ref a_11])), (a_3, .inr (10, [.ref a_12, .ref a_13])), (a_12, .inr (0, [.int i_2, .int i_3, .int i_4, .int i_5, .int i_6, .int i_7, .int i_8, .int i_9, .ref a_14, .ref a_15, .ref a_16, .ref a_17, .ref a_18, .ref a_19, .ref a_20, .ref a_21, .ref a_22, .ref a_23])), (a_20, .inl (cy 1, 30, .inl f_0)), (a_13, .inl (cy 5, 3, .inr (.inr (.inr (.inr (va_up (va_up (va_up (fun _ => none) 0 (some a_24)) 1 (some a_25)) 2 (some a_26))))))), (a_24, .inr (1, [.ref a_27, .ref a_28, .int i_10, .int i_11, .int i_12])), (a_27, .inl (cy 1, 2100, .inl f_1)), (a_25, .inr (1, [.ref a_29, .ref a_30, .int i_13, .int i_14, .int i_15])), (a_29, .inl (cy 1, 2100, .inl f_2)), (a_26, .inr (1, [.ref a_31, .ref a_32, .int i_16, .int i_17, .int i_18])), (a_31, .inl (cy 1, 2100, .inl f_3))] H → va_D A [(a_0, .inr (11, [.ref a_1, .ref a_2, .ref a_3, .ref a_4, .ref a_5, .ref a_6, .ref a_7, .ref a_8, .ref a_9, .ref a_10, .ref a_11])), (a_3, .inr (10, [.ref a_12, .ref a_13])), (a_12, .inr (0, [.int i_2, .int i_3, .int i_4, .int i_5, .int i_6, .int i_7, .int i_8, .int i_9, .ref a_14, .ref a_15, .ref a_16, .ref a_17, .ref a_18, .ref a_19, .ref a_20, .ref a_21, .ref a_22, .ref a_23])), (a_20, .inl (cy 1, 30, .inl f_0)), (a_13, .inl (cy 5, 3, .inr (.inr (.inr (.inr (va_up (va_up (va_up (fun _ => none) 0 (some a_24)) 1 (some a_25)) 2 (some a_26))))))), (a_24, .inr (1, [.ref a_27, .ref a_28, .int i_10, .int i_11, .int i_12])), (a_27, .inl (cy 1, 2100, .inl f_1)), (a_25, .inr (1, [.ref a_29, .ref a_30, .int i_13, .int i_14, .int i_15])), (a_29, .inl (cy 1, 2100, .inl f_2)), (a_26, .inr (1, [.ref a_31, .ref a_32, .int i_16, .int i_17, .int i_18])), (a_31, .inl (cy 1, 2100, .inl f_3))] → va_S A s.heap H locs → ∀ (ls : Array Slot), lv_has ls 6 [(5, .int x34_5_142), (4, .int v13), (3, .int x34_3_143), (0, .ref a_0), (1, .int i_0), (2, .int i_1)] → W p l e R s m args below meth c H locs 0 0 Q (F0 m 34 ls []) := by
            intro n
            induction n with
            | zero => intro x34_5_142 x34_3_143 rx34_5_142 rx34_3_143 hm; exact absurd hm (Nat.not_lt_zero _)
            | succ n ih34 =>
              intro x34_5_142 x34_3_143 rx34_5_142 rx34_3_143 hm34 H locs hP hD hS ls hl
              refine lv_iload hx hb dX11_may_34 (lv_at hl 0 rfl) ?_
              refine lv_iload hx hb dX11_may_36 (lv_at hl 1 rfl) ?_
              refine lv_icmp_ge (tgt := 63) hx hb dX11_may_38 (by decide) (fun c145 => ?_) (fun c145 => ?_)
              · refine lv_iload_n hx hb dX11_may_63 rfl (lv_at hl 2 rfl) ?_
                subst hAe
                rw [hQ]
                exact W.iret (v := x34_3_143) hx hb hr (fun t ht hW => ⟨⟨x34_3_143, (), rfl, (mm_wk rx34_3_143 (by decide)), by rw [ht]; exact hP, hK.warm hW, hD⟩, hS.F ht⟩) hS.2.2 dX11_may_64
              · have q146 := mm_ltL (h := 209) (mm_nle c145) rx34_5_142 w14 (by decide)
                have q147 := mm_ltR (lo := 1) (mm_nle c145) rx34_5_142 w14 (by decide)
                refine lv_iload_n hx hb dX11_may_41 rfl (lv_at hl 2 rfl) ?_
                refine lv_iconst (v := 1) hx hb dX11_may_42 (by decide) ?_
                refine lv_aload_n hx hb dX11_may_43 rfl (lv_at hl 3 rfl) ?_
                refine va_get (D := G) (ci := 11) (v := .ref a_3) (C := RX11) (T := TX11) (N := 11) hx hb hts (mm_i inlX11) hown hK.1 hP 0 rfl rfl 2 (by decide) (mm_h hts mm_w24) (fun _ h9 => h9) rfl dX11_may_44 ?_
                refine lv_iload_n hx hb dX11_may_47 rfl (lv_at hl 4 rfl) ?_
                refine lv_iload hx hb dX11_may_48 (lv_at hl 0 rfl) ?_
                refine lv_iload_n hx hb dX11_may_50 rfl (lv_at hl 5 rfl) ?_
                refine mm_finir (va_runV (As := [.int i_0, .int x34_5_142, .int i_1]) (rest := [.int 1, .int x34_3_143]) ⟨hx, hb, hml, hown, hts⟩ (K358_X10_wordFor l G cy H.size a_3 i_0 x34_5_142 i_1 a_12 a_13 i_2 i_3 i_4 i_5 i_6 i_7 i_8 i_9 a_14 a_15 a_16 a_17 a_18 a_19 a_20 a_21 a_22 a_23 f_0 a_24 a_25 a_26 a_27 a_28 i_10 i_11 i_12 f_1 a_29 a_30 i_13 i_14 i_15 f_2 a_31 a_32 i_16 i_17 i_18 f_3 w3 (mm_wk q146 (by decide)) w9 h0 h2 h3 h4 h5 h6 h7 h8) (cwV 3 hts (mm_gV mm_w725 mm_w726 mm_w727 mm_w23 mm_w728) rfl rfl rfl hd_X10_wordFor ⟨by rw [hRf]; exact Nat.le_of_ble_eq_true rfl, by rw [hRl]; exact Nat.le_of_ble_eq_true rfl⟩) (mm_preV hK hZ hS hA hP hD [1, 2, 3, 4, 5, 6, 7, 8, 9, 10] rfl rfl 1 rfl rfl rfl) rfl rfl hl.1 rfl (lv_room (Nat.le_of_ble_eq_true rfl)) dX11_may_51 ⟨by rw [hRc]; exact Nat.le_of_ble_eq_true rfl, by rw [hRs]; exact Nat.le_of_ble_eq_true rfl⟩) hP hD hS hA [1, 2, 3, 4, 5, 6, 7, 8, 9, 10] rfl (fun _ => rfl) ?_
                clear hP hD hS
                clear H locs
                intro v148 _u H locs hw hP hD hS
                have w149 := hw
                refine lv_ishl hx hb dX11_may_54 ?_
                refine lv_topi (fun v150 ev150 => ?_)
                have rv150 : mm_rg v150 1 512 := mm_shl1 ev150 w149 (by decide)
                refine lv_ior hx hb dX11_may_55 ?_
                refine lv_topi (fun v151 ev151 => ?_)
                have rv151 : mm_rg v151 0 1023 := mm_or ev151 10 rx34_3_143 rv150 (by decide)
                refine lv_istore_n (lv' := [(3, .int v151), (5, .int x34_5_142), (4, .int v13), (0, .ref a_0), (1, .int i_0), (2, .int i_1)]) hx hb dX11_may_56 rfl hl (by decide) rfl ?_
                clear hl
                clear ls
                intro ls hl
                obtain ⟨v152, ev152⟩ : ∃ y : Int32, y = x34_5_142 + 1 := ⟨_, rfl⟩
                refine lv_iinc (v := v152) (lv' := [(5, .int v152), (3, .int v151), (4, .int v13), (0, .ref a_0), (1, .int i_0), (2, .int i_1)]) hx hb dX11_may_57 hl (k := 1) rfl (by rw [ev152]; rfl) (by decide) rfl ?_
                clear hl
                clear ls
                intro ls hl
                have rv152 : mm_rg v152 1 210 := mm_add ev152 q146 mm_k1 (by decide) (by decide)
                have tv152 := mm_addEc ev152 q146 mm_k1 (by decide) (k := 1) (by decide)
                refine lv_goto (tgt := 34) hx hb dX11_may_60 (by decide) ?_
                exact ih34 v152 v151 (mm_wk rv152 (by decide)) rv151 (mm_mu hm34 tv152 (by decide) (rv152).2 (by decide)) H locs hP hD hS ls (lv_sub hl [0, 2, 1, 3, 4, 5] rfl)
          exact L34_143 _ 0 0 (mm_wk mm_k0 (by decide)) (mm_wk mm_k0 (by decide)) (Nat.lt_succ_self _) H locs hP hD hS ls (lv_sub hl [0, 1, 2, 3, 4, 5] rfl)
        · exact mm_eqN c12.symm mm_k0 mm_k1 (by decide)

set_option maxHeartbeats 4000000 in
set_option maxRecDepth 100000 in
theorem K366_X11_mostMute (l : Launch) (G : va_G) (cy : Nat → ClassId) (sz : Nat) (a_0 : Nat) (i_0 : Int32) (a_1 : Nat) (a_2 : Nat) (a_3 : Nat) (a_4 : Nat) (a_5 : Nat) (a_6 : Nat) (a_7 : Nat) (a_8 : Nat) (a_9 : Nat) (a_10 : Nat) (a_11 : Nat) (a_12 : Nat) (a_13 : Nat) (i_1 : Int32) (i_2 : Int32) (i_3 : Int32) (i_4 : Int32) (i_5 : Int32) (i_6 : Int32) (i_7 : Int32) (i_8 : Int32) (a_14 : Nat) (a_15 : Nat) (a_16 : Nat) (a_17 : Nat) (a_18 : Nat) (a_19 : Nat) (a_20 : Nat) (a_21 : Nat) (a_22 : Nat) (a_23 : Nat) (f_0 : Nat → Int32) (a_24 : Nat) (a_25 : Nat) (a_26 : Nat) (a_27 : Nat) (a_28 : Nat) (i_9 : Int32) (i_10 : Int32) (i_11 : Int32) (f_1 : Nat → Int32) (a_29 : Nat) (a_30 : Nat) (i_12 : Int32) (i_13 : Int32) (i_14 : Int32) (f_2 : Nat → Int32) (a_31 : Nat) (a_32 : Nat) (i_15 : Int32) (i_16 : Int32) (i_17 : Int32) (f_3 : Nat → Int32) (h0 : mm_rg i_0 0 2) (h1 : mm_rg i_5 0 9) (h2 : mm_ar f_0 0 9) (h3 : mm_rg i_11 (-2147483648) 210) (h4 : mm_ar f_1 0 9) (h5 : mm_rg i_14 (-2147483648) 210) (h6 : mm_ar f_2 0 9) (h7 : mm_rg i_17 (-2147483648) 210) (h8 : mm_ar f_3 0 9)  : mm_CI l yX11_mostMute (mm_ws yX11_mostMute cX11_mostMute 7 (some .int)) ({ frames := 3, cells := 0, slots := 0, locals := 70 } : Room) G cy sz [(a_0, .inr (11, [.ref a_1, .ref a_2, .ref a_3, .ref a_4, .ref a_5, .ref a_6, .ref a_7, .ref a_8, .ref a_9, .ref a_10, .ref a_11])), (a_3, .inr (10, [.ref a_12, .ref a_13])), (a_12, .inr (0, [.int i_1, .int i_2, .int i_3, .int i_4, .int i_5, .int i_6, .int i_7, .int i_8, .ref a_14, .ref a_15, .ref a_16, .ref a_17, .ref a_18, .ref a_19, .ref a_20, .ref a_21, .ref a_22, .ref a_23])), (a_20, .inl (cy 1, 30, .inl f_0)), (a_13, .inl (cy 5, 3, .inr (.inr (.inr (.inr (va_up (va_up (va_up (fun _ => none) 0 (some a_24)) 1 (some a_25)) 2 (some a_26))))))), (a_24, .inr (1, [.ref a_27, .ref a_28, .int i_9, .int i_10, .int i_11])), (a_27, .inl (cy 1, 2100, .inl f_1)), (a_25, .inr (1, [.ref a_29, .ref a_30, .int i_12, .int i_13, .int i_14])), (a_29, .inl (cy 1, 2100, .inl f_2)), (a_26, .inr (1, [.ref a_31, .ref a_32, .int i_15, .int i_16, .int i_17])), (a_31, .inl (cy 1, 2100, .inl f_3))] [.ref a_0, .int i_0] (fun u : Unit => [(a_0, .inr (11, [.ref a_1, .ref a_2, .ref a_3, .ref a_4, .ref a_5, .ref a_6, .ref a_7, .ref a_8, .ref a_9, .ref a_10, .ref a_11])), (a_3, .inr (10, [.ref a_12, .ref a_13])), (a_12, .inr (0, [.int i_1, .int i_2, .int i_3, .int i_4, .int i_5, .int i_6, .int i_7, .int i_8, .ref a_14, .ref a_15, .ref a_16, .ref a_17, .ref a_18, .ref a_19, .ref a_20, .ref a_21, .ref a_22, .ref a_23])), (a_20, .inl (cy 1, 30, .inl f_0)), (a_13, .inl (cy 5, 3, .inr (.inr (.inr (.inr (va_up (va_up (va_up (fun _ => none) 0 (some a_24)) 1 (some a_25)) 2 (some a_26))))))), (a_24, .inr (1, [.ref a_27, .ref a_28, .int i_9, .int i_10, .int i_11])), (a_27, .inl (cy 1, 2100, .inl f_1)), (a_25, .inr (1, [.ref a_29, .ref a_30, .int i_12, .int i_13, .int i_14])), (a_29, .inl (cy 1, 2100, .inl f_2)), (a_26, .inr (1, [.ref a_31, .ref a_32, .int i_15, .int i_16, .int i_17])), (a_31, .inl (cy 1, 2100, .inl f_3))]) (fun (r : Int32) (u : Unit) => mm_rg r 0 9) 0 0 := by
  refine mm_begin (lv := [(0, .ref a_0), (1, .int i_0)]) (by decide) (Nat.le_of_ble_eq_true rfl) rfl ?_
  intro p e s m below meth c A ls R args Q H locs hRe hQ hAe hx hb hr hlocks hml hown hnm hts hsz hA hS hP hK hD hZ hl
  have hRf : R.frames = 3 := by rw [hRe]
  have hRl : R.locals = 70 := by rw [hRe]
  have hRc : R.cells = 0 := by rw [hRe]
  have hRs : R.slots = 0 := by rw [hRe]
  refine lv_iconst (v := 0) hx hb dX11_mostMute_0 (by decide) ?_
  refine lv_istore_n (lv' := [(2, .int 0), (0, .ref a_0), (1, .int i_0)]) hx hb dX11_mostMute_1 rfl hl (by decide) rfl ?_
  clear hl
  clear ls
  intro ls hl
  refine lv_iconst (v := 0) hx hb dX11_mostMute_2 (by decide) ?_
  refine lv_istore_n (lv' := [(3, .int 0), (2, .int 0), (0, .ref a_0), (1, .int i_0)]) hx hb dX11_mostMute_3 rfl hl (by decide) rfl ?_
  clear hl
  clear ls
  intro ls hl
  refine lv_aload_n hx hb dX11_mostMute_4 rfl (lv_at hl 2 rfl) ?_
  refine va_get (D := G) (ci := 11) (v := .ref a_3) (C := RX11) (T := TX11) (N := 11) hx hb hts (mm_i inlX11) hown hK.1 hP 0 rfl rfl 2 (by decide) (mm_h hts mm_w24) (fun _ h9 => h9) rfl dX11_mostMute_5 ?_
  refine va_get (D := G) (ci := 10) (v := .ref a_12) (C := RX10) (T := TX10) (N := 2) hx hb hts (mm_i inlX10) hown hK.1 hP 1 rfl rfl 0 (by decide) (mm_h hts mm_w199) (fun _ h9 => h9) rfl dX11_mostMute_8 ?_
  refine mm_finir (va_runV (As := []) (rest := []) ⟨hx, hb, hml, hown, hts⟩ (K107_X0_wordCount l G cy H.size a_12 i_1 i_2 i_3 i_4 i_5 i_6 i_7 i_8 a_14 a_15 a_16 a_17 a_18 a_19 a_20 a_21 a_22 a_23 h1) (cwV 0 hts (mm_gV mm_w635 mm_w349 mm_w350 mm_w28 mm_w351) rfl rfl rfl hd_X0_wordCount ⟨by rw [hRf]; exact Nat.le_of_ble_eq_true rfl, by rw [hRl]; exact Nat.le_of_ble_eq_true rfl⟩) (mm_preV hK hZ hS hA hP hD [2] rfl rfl 2 rfl rfl rfl) rfl rfl hl.1 rfl (lv_room (Nat.le_of_ble_eq_true rfl)) dX11_mostMute_11 ⟨by rw [hRc]; exact Nat.le_of_ble_eq_true rfl, by rw [hRs]; exact Nat.le_of_ble_eq_true rfl⟩) hP hD hS hA [2] rfl (fun _ => rfl) ?_
  clear hP hD hS
  clear H locs
  intro v1 _u H locs hw hP hD hS
  have w2 := hw
  refine lv_istore (lv' := [(4, .int v1), (3, .int 0), (2, .int 0), (0, .ref a_0), (1, .int i_0)]) hx hb dX11_mostMute_14 hl (by decide) rfl ?_
  clear hl
  clear ls
  intro ls hl
  refine lv_iconst (v := 0) hx hb dX11_mostMute_16 (by decide) ?_
  refine lv_istore (lv' := [(5, .int 0), (4, .int v1), (3, .int 0), (2, .int 0), (0, .ref a_0), (1, .int i_0)]) hx hb dX11_mostMute_17 hl (by decide) rfl ?_
  clear hl
  clear ls
  intro ls hl
  have L19_117 : ∀ (n : Nat) (x19_5_115 : Int32) (x19_3_116 : Int32) (x19_2_117 : Int32), mm_rg x19_5_115 0 10 → mm_rg x19_3_116 0 2147483647 → mm_rg x19_2_117 0 9 → (10 - x19_5_115.toInt).toNat < n → ∀ (H : Heap) (locs : List Loc), va_P G vwCl [(a_0, .inr (11, [.ref a_1, .ref a_2, .ref a_3, .ref a_4, .ref a_5, .ref a_6, .ref a_7, .ref a_8, .ref a_9, .ref a_10, .ref a_11])), (a_3, .inr (10, [.ref a_12, .ref a_13])), (a_12, .inr (0, [.int i_1, .int i_2, .int i_3, .int i_4, .int i_5, .int i_6, .int i_7, .int i_8, .ref a_14, .ref a_15, .ref a_16, .ref a_17, .ref a_18, .ref a_19, .ref a_20, .ref a_21, .ref a_22, .ref a_23])), (a_20, .inl (cy 1, 30, .inl f_0)), (a_13, .inl (cy 5, 3, .inr (.inr (.inr (.inr (va_up (va_up (va_up (fun _ => none) 0 (some a_24)) 1 (some a_25)) 2 (some a_26))))))), (a_24, .inr (1, [.ref a_27, .ref a_28, .int i_9, .int i_10, .int i_11])), (a_27, .inl (cy 1, 2100, .inl f_1)), (a_25, .inr (1, [.ref a_29, .ref a_30, .int i_12, .int i_13, .int i_14])), (a_29, .inl (cy 1, 2100, .inl f_2)), (a_26, .inr (1, [.ref a_31, .ref a_32, .int i_15, .int i_16, .int i_17])), (a_31, .inl (cy 1, 2100, .inl f_3))] H → va_D A [(a_0, .inr (11, [.ref a_1, .ref a_2, .ref a_3, .ref a_4, .ref a_5, .ref a_6, .ref a_7, .ref a_8, .ref a_9, .ref a_10, .ref a_11])), (a_3, .inr (10, [.ref a_12, .ref a_13])), (a_12, .inr (0, [.int i_1, .int i_2, .int i_3, .int i_4, .int i_5, .int i_6, .int i_7, .int i_8, .ref a_14, .ref a_15, .ref a_16, .ref a_17, .ref a_18, .ref a_19, .ref a_20, .ref a_21, .ref a_22, .ref a_23])), (a_20, .inl (cy 1, 30, .inl f_0)), (a_13, .inl (cy 5, 3, .inr (.inr (.inr (.inr (va_up (va_up (va_up (fun _ => none) 0 (some a_24)) 1 (some a_25)) 2 (some a_26))))))), (a_24, .inr (1, [.ref a_27, .ref a_28, .int i_9, .int i_10, .int i_11])), (a_27, .inl (cy 1, 2100, .inl f_1)), (a_25, .inr (1, [.ref a_29, .ref a_30, .int i_12, .int i_13, .int i_14])), (a_29, .inl (cy 1, 2100, .inl f_2)), (a_26, .inr (1, [.ref a_31, .ref a_32, .int i_15, .int i_16, .int i_17])), (a_31, .inl (cy 1, 2100, .inl f_3))] → va_S A s.heap H locs → ∀ (ls : Array Slot), lv_has ls 7 [(5, .int x19_5_115), (4, .int v1), (3, .int x19_3_116), (2, .int x19_2_117), (0, .ref a_0), (1, .int i_0)] → W p l e R s m args below meth c H locs 0 0 Q (F0 m 19 ls []) := by
    intro n
    induction n with
    | zero => intro x19_5_115 x19_3_116 x19_2_117 rx19_5_115 rx19_3_116 rx19_2_117 hm; exact absurd hm (Nat.not_lt_zero _)
    | succ n ih19 =>
      intro x19_5_115 x19_3_116 x19_2_117 rx19_5_115 rx19_3_116 rx19_2_117 hm19 H locs hP hD hS ls hl
      refine lv_iload hx hb dX11_mostMute_19 (lv_at hl 0 rfl) ?_
      refine lv_iload hx hb dX11_mostMute_21 (lv_at hl 1 rfl) ?_
      refine lv_icmp_ge (tgt := 66) hx hb dX11_mostMute_23 (by decide) (fun c119 => ?_) (fun c119 => ?_)
      · have q120 := mm_leR (mm_le c119) w2 rx19_5_115
        refine lv_iload_n hx hb dX11_mostMute_66 rfl (lv_at hl 3 rfl) ?_
        subst hAe
        rw [hQ]
        exact W.iret (v := x19_2_117) hx hb hr (fun t ht hW => ⟨⟨x19_2_117, (), rfl, rx19_2_117, by rw [ht]; exact hP, hK.warm hW, hD⟩, hS.F ht⟩) hS.2.2 dX11_mostMute_67
      · have q121 := mm_ltL (h := 9) (mm_nle c119) rx19_5_115 w2 (by decide)
        refine lv_aload_n hx hb dX11_mostMute_26 rfl (lv_at hl 4 rfl) ?_
        refine va_get (D := G) (ci := 11) (v := .ref a_3) (C := RX11) (T := TX11) (N := 11) hx hb hts (mm_i inlX11) hown hK.1 hP 0 rfl rfl 2 (by decide) (mm_h hts mm_w24) (fun _ h9 => h9) rfl dX11_mostMute_27 ?_
        refine lv_iload_n hx hb dX11_mostMute_30 rfl (lv_at hl 5 rfl) ?_
        refine lv_iload hx hb dX11_mostMute_31 (lv_at hl 0 rfl) ?_
        refine lv_aload_n hx hb dX11_mostMute_33 rfl (lv_at hl 4 rfl) ?_
        refine va_get (D := G) (ci := 11) (v := .ref a_3) (C := RX11) (T := TX11) (N := 11) hx hb hts (mm_i inlX11) hown hK.1 hP 0 rfl rfl 2 (by decide) (mm_h hts mm_w24) (fun _ h9 => h9) rfl dX11_mostMute_34 ?_
        refine va_get (D := G) (ci := 10) (v := .ref a_12) (C := RX10) (T := TX10) (N := 2) hx hb hts (mm_i inlX10) hown hK.1 hP 1 rfl rfl 0 (by decide) (mm_h hts mm_w199) (fun _ h9 => h9) rfl dX11_mostMute_37 ?_
        refine va_get (D := G) (ci := 0) (v := .int i_5) (C := RX0) (T := TX0) (N := 18) hx hb hts (mm_i inlX0) hown hK.1 hP 2 rfl rfl 4 (by decide) (mm_h hts mm_w580) (fun _ h9 => h9) rfl dX11_mostMute_40 ?_
        refine mm_finir (va_runV (As := [.int i_0, .int x19_5_115, .int i_5]) (rest := []) ⟨hx, hb, hml, hown, hts⟩ (K363_X10_daysOfMeaning l G cy H.size a_3 i_0 x19_5_115 i_5 a_12 a_13 i_1 i_2 i_3 i_4 i_5 i_6 i_7 i_8 a_14 a_15 a_16 a_17 a_18 a_19 a_20 a_21 a_22 a_23 f_0 a_24 a_25 a_26 a_27 a_28 i_9 i_10 i_11 f_1 a_29 a_30 i_12 i_13 i_14 f_2 a_31 a_32 i_15 i_16 i_17 f_3 h0 q121 h1 h2 h3 h4 h5 h6 h7 h8) (cwV 3 hts (mm_gV mm_w764 mm_w765 mm_w766 mm_w23 mm_w767) rfl rfl rfl hd_X10_daysOfMeaning ⟨by rw [hRf]; exact Nat.le_of_ble_eq_true rfl, by rw [hRl]; exact Nat.le_of_ble_eq_true rfl⟩) (mm_preV hK hZ hS hA hP hD [1, 2, 3, 4, 5, 6, 7, 8, 9, 10] rfl rfl 1 rfl rfl rfl) rfl rfl hl.1 rfl (lv_room (Nat.le_of_ble_eq_true rfl)) dX11_mostMute_43 ⟨by rw [hRc]; exact Nat.le_of_ble_eq_true rfl, by rw [hRs]; exact Nat.le_of_ble_eq_true rfl⟩) hP hD hS hA [1, 2, 3, 4, 5, 6, 7, 8, 9, 10] rfl (fun _ => rfl) ?_
        clear hP hD hS
        clear H locs
        intro v122 _u H locs hw hP hD hS
        refine lv_istore (lv' := [(6, .int v122), (5, .int x19_5_115), (4, .int v1), (3, .int x19_3_116), (2, .int x19_2_117), (0, .ref a_0), (1, .int i_0)]) hx hb dX11_mostMute_46 hl (by decide) rfl ?_
        clear hl
        clear ls
        intro ls hl
        refine lv_iload hx hb dX11_mostMute_48 (lv_at hl 0 rfl) ?_
        refine lv_iload_n hx hb dX11_mostMute_50 rfl (lv_at hl 3 rfl) ?_
        refine lv_icmp_le (tgt := 60) hx hb dX11_mostMute_51 (by decide) (fun c123 => ?_) (fun c123 => ?_)
        · obtain ⟨v124, ev124⟩ : ∃ y : Int32, y = x19_5_115 + 1 := ⟨_, rfl⟩
          refine lv_iinc (v := v124) (lv' := [(5, .int v124), (6, .int v122), (4, .int v1), (3, .int x19_3_116), (2, .int x19_2_117), (0, .ref a_0), (1, .int i_0)]) hx hb dX11_mostMute_60 hl (k := 1) rfl (by rw [ev124]; rfl) (by decide) rfl ?_
          clear hl
          clear ls
          intro ls hl
          have rv124 : mm_rg v124 1 10 := mm_add ev124 q121 mm_k1 (by decide) (by decide)
          have tv124 := mm_addEc ev124 q121 mm_k1 (by decide) (k := 1) (by decide)
          refine lv_goto (tgt := 19) hx hb dX11_mostMute_63 (by decide) ?_
          exact ih19 v124 x19_3_116 x19_2_117 (mm_wk rv124 (by decide)) rx19_3_116 rx19_2_117 (mm_mu hm19 tv124 (by decide) (rv124).2 (by decide)) H locs hP hD hS ls (lv_sub hl [0, 2, 3, 4, 5, 6] rfl)
        · have q125 := mm_ltL (h := 2147483646) (mm_nle c123) rx19_3_116 (mm_top v122) (by decide)
          have q126 := mm_ltR (lo := 1) (mm_nle c123) rx19_3_116 (mm_top v122) (by decide)
          refine lv_iload hx hb dX11_mostMute_54 (lv_at hl 0 rfl) ?_
          refine lv_istore_n (lv' := [(3, .int v122), (6, .int v122), (5, .int x19_5_115), (4, .int v1), (2, .int x19_2_117), (0, .ref a_0), (1, .int i_0)]) hx hb dX11_mostMute_56 rfl hl (by decide) rfl ?_
          clear hl
          clear ls
          intro ls hl
          refine lv_iload hx hb dX11_mostMute_57 (lv_at hl 2 rfl) ?_
          refine lv_istore_n (lv' := [(2, .int x19_5_115), (3, .int v122), (6, .int v122), (5, .int x19_5_115), (4, .int v1), (0, .ref a_0), (1, .int i_0)]) hx hb dX11_mostMute_59 rfl hl (by decide) rfl ?_
          clear hl
          clear ls
          intro ls hl
          obtain ⟨v127, ev127⟩ : ∃ y : Int32, y = x19_5_115 + 1 := ⟨_, rfl⟩
          refine lv_iinc (v := v127) (lv' := [(5, .int v127), (2, .int x19_5_115), (3, .int v122), (6, .int v122), (4, .int v1), (0, .ref a_0), (1, .int i_0)]) hx hb dX11_mostMute_60 hl (k := 3) rfl (by rw [ev127]; rfl) (by decide) rfl ?_
          clear hl
          clear ls
          intro ls hl
          have rv127 : mm_rg v127 1 10 := mm_add ev127 q121 mm_k1 (by decide) (by decide)
          have tv127 := mm_addEc ev127 q121 mm_k1 (by decide) (k := 1) (by decide)
          refine lv_goto (tgt := 19) hx hb dX11_mostMute_63 (by decide) ?_
          exact ih19 v127 v122 x19_5_115 (mm_wk rv127 (by decide)) (mm_wk q126 (by decide)) q121 (mm_mu hm19 tv127 (by decide) (rv127).2 (by decide)) H locs hP hD hS ls (lv_sub hl [0, 4, 2, 1, 5, 6] rfl)
  exact L19_117 _ 0 0 0 (mm_wk mm_k0 (by decide)) (mm_wk mm_k0 (by decide)) (mm_wk mm_k0 (by decide)) (Nat.lt_succ_self _) H locs hP hD hS ls (lv_sub hl [0, 1, 2, 3, 4, 5] rfl)

set_option maxHeartbeats 4000000 in
set_option maxRecDepth 100000 in
theorem K367_X11_mute (l : Launch) (G : va_G) (cy : Nat → ClassId) (sz : Nat) (a_0 : Nat) (i_0 : Int32) (a_1 : Nat) (a_2 : Nat) (a_3 : Nat) (a_4 : Nat) (a_5 : Nat) (a_6 : Nat) (a_7 : Nat) (a_8 : Nat) (a_9 : Nat) (a_10 : Nat) (a_11 : Nat) (a_12 : Nat) (a_13 : Nat) (i_1 : Int32) (i_2 : Int32) (i_3 : Int32) (i_4 : Int32) (i_5 : Int32) (i_6 : Int32) (i_7 : Int32) (i_8 : Int32) (a_14 : Nat) (a_15 : Nat) (a_16 : Nat) (a_17 : Nat) (a_18 : Nat) (a_19 : Nat) (a_20 : Nat) (a_21 : Nat) (a_22 : Nat) (a_23 : Nat) (f_0 : Nat → Int32) (a_24 : Nat) (a_25 : Nat) (a_26 : Nat) (a_27 : Nat) (a_28 : Nat) (i_9 : Int32) (i_10 : Int32) (i_11 : Int32) (f_1 : Nat → Int32) (a_29 : Nat) (a_30 : Nat) (i_12 : Int32) (i_13 : Int32) (i_14 : Int32) (f_2 : Nat → Int32) (a_31 : Nat) (a_32 : Nat) (i_15 : Int32) (i_16 : Int32) (i_17 : Int32) (f_3 : Nat → Int32) (h0 : mm_rg i_5 0 9) (h1 : mm_rg i_6 0 3) (h2 : mm_ar f_0 0 9) (h3 : mm_rg i_11 (-2147483648) 210) (h4 : mm_ar f_1 0 9) (h5 : mm_rg i_14 (-2147483648) 210) (h6 : mm_ar f_2 0 9) (h7 : mm_rg i_17 (-2147483648) 210) (h8 : mm_ar f_3 0 9)  : mm_CI l yX11_mute (mm_ws yX11_mute cX11_mute 2 (some .int)) ({ frames := 4, cells := 0, slots := 0, locals := 96 } : Room) G cy sz [(a_0, .inr (11, [.ref a_1, .ref a_2, .ref a_3, .ref a_4, .ref a_5, .ref a_6, .ref a_7, .ref a_8, .ref a_9, .ref a_10, .ref a_11])), (a_3, .inr (10, [.ref a_12, .ref a_13])), (a_12, .inr (0, [.int i_1, .int i_2, .int i_3, .int i_4, .int i_5, .int i_6, .int i_7, .int i_8, .ref a_14, .ref a_15, .ref a_16, .ref a_17, .ref a_18, .ref a_19, .ref a_20, .ref a_21, .ref a_22, .ref a_23])), (a_20, .inl (cy 1, 30, .inl f_0)), (a_13, .inl (cy 5, 3, .inr (.inr (.inr (.inr (va_up (va_up (va_up (fun _ => none) 0 (some a_24)) 1 (some a_25)) 2 (some a_26))))))), (a_24, .inr (1, [.ref a_27, .ref a_28, .int i_9, .int i_10, .int i_11])), (a_27, .inl (cy 1, 2100, .inl f_1)), (a_25, .inr (1, [.ref a_29, .ref a_30, .int i_12, .int i_13, .int i_14])), (a_29, .inl (cy 1, 2100, .inl f_2)), (a_26, .inr (1, [.ref a_31, .ref a_32, .int i_15, .int i_16, .int i_17])), (a_31, .inl (cy 1, 2100, .inl f_3))] [.ref a_0, .int i_0] (fun u : Unit => [(a_0, .inr (11, [.ref a_1, .ref a_2, .ref a_3, .ref a_4, .ref a_5, .ref a_6, .ref a_7, .ref a_8, .ref a_9, .ref a_10, .ref a_11])), (a_3, .inr (10, [.ref a_12, .ref a_13])), (a_12, .inr (0, [.int i_1, .int i_2, .int i_3, .int i_4, .int i_5, .int i_6, .int i_7, .int i_8, .ref a_14, .ref a_15, .ref a_16, .ref a_17, .ref a_18, .ref a_19, .ref a_20, .ref a_21, .ref a_22, .ref a_23])), (a_20, .inl (cy 1, 30, .inl f_0)), (a_13, .inl (cy 5, 3, .inr (.inr (.inr (.inr (va_up (va_up (va_up (fun _ => none) 0 (some a_24)) 1 (some a_25)) 2 (some a_26))))))), (a_24, .inr (1, [.ref a_27, .ref a_28, .int i_9, .int i_10, .int i_11])), (a_27, .inl (cy 1, 2100, .inl f_1)), (a_25, .inr (1, [.ref a_29, .ref a_30, .int i_12, .int i_13, .int i_14])), (a_29, .inl (cy 1, 2100, .inl f_2)), (a_26, .inr (1, [.ref a_31, .ref a_32, .int i_15, .int i_16, .int i_17])), (a_31, .inl (cy 1, 2100, .inl f_3))]) (fun (r : Int32) (u : Unit) => True) 0 0 := by
  refine mm_begin (lv := [(0, .ref a_0), (1, .int i_0)]) (by decide) (Nat.le_of_ble_eq_true rfl) rfl ?_
  intro p e s m below meth c A ls R args Q H locs hRe hQ hAe hx hb hr hlocks hml hown hnm hts hsz hA hS hP hK hD hZ hl
  have hRf : R.frames = 4 := by rw [hRe]
  have hRl : R.locals = 96 := by rw [hRe]
  have hRc : R.cells = 0 := by rw [hRe]
  have hRs : R.slots = 0 := by rw [hRe]
  refine lv_aload_n hx hb dX11_mute_0 rfl (lv_at hl 0 rfl) ?_
  refine lv_iload_n hx hb dX11_mute_1 rfl (lv_at hl 1 rfl) ?_
  refine mm_finir (va_runV (As := [.int i_0]) (rest := []) ⟨hx, hb, hml, hown, hts⟩ (K350_X11_isLand l G cy H.size a_0 i_0 a_1 a_2 a_3 a_4 a_5 a_6 a_7 a_8 a_9 a_10 a_11 a_12 a_13 i_1 i_2 i_3 i_4 i_5 i_6 i_7 i_8 a_14 a_15 a_16 a_17 a_18 a_19 a_20 a_21 a_22 a_23 h1) (cwV 1 hts (mm_gV mm_w626 mm_w627 mm_w628 mm_w2 mm_w629) rfl rfl rfl hd_X11_isLand ⟨by rw [hRf]; exact Nat.le_of_ble_eq_true rfl, by rw [hRl]; exact Nat.le_of_ble_eq_true rfl⟩) (mm_preV hK hZ hS hA hP hD [0, 1, 2] rfl rfl 0 rfl rfl rfl) rfl rfl hl.1 rfl (lv_room (Nat.le_of_ble_eq_true rfl)) dX11_mute_2 ⟨by rw [hRc]; exact Nat.le_of_ble_eq_true rfl, by rw [hRs]; exact Nat.le_of_ble_eq_true rfl⟩) hP hD hS hA [0, 1, 2] rfl (fun _ => rfl) ?_
  clear hP hD hS
  clear H locs
  intro v1 _u H locs hw hP hD hS
  rcases hw with ⟨rfl, w2⟩ | ⟨rfl, w3⟩
  · refine lv_if_ne (tgt := 11) hx hb dX11_mute_5 (by decide) (fun c4 => ?_) (fun c4 => ?_)
    · have q5 := mm_neL (lo := 1) (mm_ne c4) mm_k0 mm_k0 (by decide) (by decide)
      exact mm_no q5 (by decide)
    · refine lv_bipush (v := (-2)) hx hb dX11_mute_8 (by decide) ?_
      subst hAe
      rw [hQ]
      exact W.iret (v := (-2)) hx hb hr (fun t ht hW => ⟨⟨(-2), (), rfl, trivial, by rw [ht]; exact hP, hK.warm hW, hD⟩, hS.F ht⟩) hS.2.2 dX11_mute_10
  · refine lv_if_ne (tgt := 11) hx hb dX11_mute_5 (by decide) (fun c6 => ?_) (fun c6 => ?_)
    · refine lv_aload_n hx hb dX11_mute_11 rfl (lv_at hl 0 rfl) ?_
      refine va_get (D := G) (ci := 11) (v := .ref a_3) (C := RX11) (T := TX11) (N := 11) hx hb hts (mm_i inlX11) hown hK.1 hP 0 rfl rfl 2 (by decide) (mm_h hts mm_w24) (fun _ h9 => h9) rfl dX11_mute_12 ?_
      refine lv_iload_n hx hb dX11_mute_15 rfl (lv_at hl 1 rfl) ?_
      refine lv_aload_n hx hb dX11_mute_16 rfl (lv_at hl 0 rfl) ?_
      refine lv_iload_n hx hb dX11_mute_17 rfl (lv_at hl 1 rfl) ?_
      refine mm_finir (va_runV (As := [.int i_0]) (rest := [.int i_0, .ref a_3]) ⟨hx, hb, hml, hown, hts⟩ (K366_X11_mostMute l G cy H.size a_0 i_0 a_1 a_2 a_3 a_4 a_5 a_6 a_7 a_8 a_9 a_10 a_11 a_12 a_13 i_1 i_2 i_3 i_4 i_5 i_6 i_7 i_8 a_14 a_15 a_16 a_17 a_18 a_19 a_20 a_21 a_22 a_23 f_0 a_24 a_25 a_26 a_27 a_28 i_9 i_10 i_11 f_1 a_29 a_30 i_12 i_13 i_14 f_2 a_31 a_32 i_15 i_16 i_17 f_3 w3 h0 h2 h3 h4 h5 h6 h7 h8) (cwV 1 hts (mm_gV mm_w789 mm_w790 mm_w791 mm_w2 mm_w792) rfl rfl rfl hd_X11_mostMute ⟨by rw [hRf]; exact Nat.le_of_ble_eq_true rfl, by rw [hRl]; exact Nat.le_of_ble_eq_true rfl⟩) (mm_preV hK hZ hS hA hP hD [0, 1, 2, 3, 4, 5, 6, 7, 8, 9, 10] rfl rfl 0 rfl rfl rfl) rfl rfl hl.1 rfl (lv_room (Nat.le_of_ble_eq_true rfl)) dX11_mute_18 ⟨by rw [hRc]; exact Nat.le_of_ble_eq_true rfl, by rw [hRs]; exact Nat.le_of_ble_eq_true rfl⟩) hP hD hS hA [0, 1, 2, 3, 4, 5, 6, 7, 8, 9, 10] rfl (fun _ => rfl) ?_
      clear hP hD hS
      clear H locs
      intro v7 _u H locs hw hP hD hS
      have w8 := hw
      refine lv_aload_n hx hb dX11_mute_21 rfl (lv_at hl 0 rfl) ?_
      refine va_get (D := G) (ci := 11) (v := .ref a_3) (C := RX11) (T := TX11) (N := 11) hx hb hts (mm_i inlX11) hown hK.1 hP 0 rfl rfl 2 (by decide) (mm_h hts mm_w24) (fun _ h9 => h9) rfl dX11_mute_22 ?_
      refine va_get (D := G) (ci := 10) (v := .ref a_12) (C := RX10) (T := TX10) (N := 2) hx hb hts (mm_i inlX10) hown hK.1 hP 1 rfl rfl 0 (by decide) (mm_h hts mm_w199) (fun _ h9 => h9) rfl dX11_mute_25 ?_
      refine va_get (D := G) (ci := 0) (v := .int i_5) (C := RX0) (T := TX0) (N := 18) hx hb hts (mm_i inlX0) hown hK.1 hP 2 rfl rfl 4 (by decide) (mm_h hts mm_w580) (fun _ h9 => h9) rfl dX11_mute_28 ?_
      refine mm_finir (va_runV (As := [.int i_0, .int v7, .int i_5]) (rest := []) ⟨hx, hb, hml, hown, hts⟩ (K363_X10_daysOfMeaning l G cy H.size a_3 i_0 v7 i_5 a_12 a_13 i_1 i_2 i_3 i_4 i_5 i_6 i_7 i_8 a_14 a_15 a_16 a_17 a_18 a_19 a_20 a_21 a_22 a_23 f_0 a_24 a_25 a_26 a_27 a_28 i_9 i_10 i_11 f_1 a_29 a_30 i_12 i_13 i_14 f_2 a_31 a_32 i_15 i_16 i_17 f_3 w3 w8 h0 h2 h3 h4 h5 h6 h7 h8) (cwV 3 hts (mm_gV mm_w764 mm_w765 mm_w766 mm_w23 mm_w767) rfl rfl rfl hd_X10_daysOfMeaning ⟨by rw [hRf]; exact Nat.le_of_ble_eq_true rfl, by rw [hRl]; exact Nat.le_of_ble_eq_true rfl⟩) (mm_preV hK hZ hS hA hP hD [1, 2, 3, 4, 5, 6, 7, 8, 9, 10] rfl rfl 1 rfl rfl rfl) rfl rfl hl.1 rfl (lv_room (Nat.le_of_ble_eq_true rfl)) dX11_mute_31 ⟨by rw [hRc]; exact Nat.le_of_ble_eq_true rfl, by rw [hRs]; exact Nat.le_of_ble_eq_true rfl⟩) hP hD hS hA [1, 2, 3, 4, 5, 6, 7, 8, 9, 10] rfl (fun _ => rfl) ?_
      clear hP hD hS
      clear H locs
      intro v9 _u H locs hw hP hD hS
      subst hAe
      rw [hQ]
      exact W.iret (v := v9) hx hb hr (fun t ht hW => ⟨⟨v9, (), rfl, trivial, by rw [ht]; exact hP, hK.warm hW, hD⟩, hS.F ht⟩) hS.2.2 dX11_mute_34
    · exact mm_eqN c6.symm mm_k0 mm_k1 (by decide)

set_option maxHeartbeats 4000000 in
set_option maxRecDepth 100000 in
theorem K368_X11_muted (l : Launch) (G : va_G) (cy : Nat → ClassId) (sz : Nat) (a_0 : Nat) (i_0 : Int32) (a_1 : Nat) (a_2 : Nat) (a_3 : Nat) (a_4 : Nat) (a_5 : Nat) (a_6 : Nat) (a_7 : Nat) (a_8 : Nat) (a_9 : Nat) (a_10 : Nat) (a_11 : Nat) (a_12 : Nat) (a_13 : Nat) (i_1 : Int32) (i_2 : Int32) (i_3 : Int32) (i_4 : Int32) (i_5 : Int32) (i_6 : Int32) (i_7 : Int32) (i_8 : Int32) (a_14 : Nat) (a_15 : Nat) (a_16 : Nat) (a_17 : Nat) (a_18 : Nat) (a_19 : Nat) (a_20 : Nat) (a_21 : Nat) (a_22 : Nat) (a_23 : Nat) (f_0 : Nat → Int32) (a_24 : Nat) (a_25 : Nat) (a_26 : Nat) (a_27 : Nat) (a_28 : Nat) (i_9 : Int32) (i_10 : Int32) (i_11 : Int32) (f_1 : Nat → Int32) (a_29 : Nat) (a_30 : Nat) (i_12 : Int32) (i_13 : Int32) (i_14 : Int32) (f_2 : Nat → Int32) (a_31 : Nat) (a_32 : Nat) (i_15 : Int32) (i_16 : Int32) (i_17 : Int32) (f_3 : Nat → Int32) (h0 : mm_rg i_5 0 9) (h1 : mm_rg i_6 0 3) (h2 : mm_ar f_0 0 9) (h3 : mm_rg i_11 (-2147483648) 210) (h4 : mm_ar f_1 0 9) (h5 : mm_rg i_14 (-2147483648) 210) (h6 : mm_ar f_2 0 9) (h7 : mm_rg i_17 (-2147483648) 210) (h8 : mm_ar f_3 0 9)  : mm_CI l yX11_muted (mm_ws yX11_muted cX11_muted 2 (some .int)) ({ frames := 4, cells := 0, slots := 0, locals := 96 } : Room) G cy sz [(a_0, .inr (11, [.ref a_1, .ref a_2, .ref a_3, .ref a_4, .ref a_5, .ref a_6, .ref a_7, .ref a_8, .ref a_9, .ref a_10, .ref a_11])), (a_3, .inr (10, [.ref a_12, .ref a_13])), (a_12, .inr (0, [.int i_1, .int i_2, .int i_3, .int i_4, .int i_5, .int i_6, .int i_7, .int i_8, .ref a_14, .ref a_15, .ref a_16, .ref a_17, .ref a_18, .ref a_19, .ref a_20, .ref a_21, .ref a_22, .ref a_23])), (a_20, .inl (cy 1, 30, .inl f_0)), (a_13, .inl (cy 5, 3, .inr (.inr (.inr (.inr (va_up (va_up (va_up (fun _ => none) 0 (some a_24)) 1 (some a_25)) 2 (some a_26))))))), (a_24, .inr (1, [.ref a_27, .ref a_28, .int i_9, .int i_10, .int i_11])), (a_27, .inl (cy 1, 2100, .inl f_1)), (a_25, .inr (1, [.ref a_29, .ref a_30, .int i_12, .int i_13, .int i_14])), (a_29, .inl (cy 1, 2100, .inl f_2)), (a_26, .inr (1, [.ref a_31, .ref a_32, .int i_15, .int i_16, .int i_17])), (a_31, .inl (cy 1, 2100, .inl f_3))] [.ref a_0, .int i_0] (fun u : Unit => [(a_0, .inr (11, [.ref a_1, .ref a_2, .ref a_3, .ref a_4, .ref a_5, .ref a_6, .ref a_7, .ref a_8, .ref a_9, .ref a_10, .ref a_11])), (a_3, .inr (10, [.ref a_12, .ref a_13])), (a_12, .inr (0, [.int i_1, .int i_2, .int i_3, .int i_4, .int i_5, .int i_6, .int i_7, .int i_8, .ref a_14, .ref a_15, .ref a_16, .ref a_17, .ref a_18, .ref a_19, .ref a_20, .ref a_21, .ref a_22, .ref a_23])), (a_20, .inl (cy 1, 30, .inl f_0)), (a_13, .inl (cy 5, 3, .inr (.inr (.inr (.inr (va_up (va_up (va_up (fun _ => none) 0 (some a_24)) 1 (some a_25)) 2 (some a_26))))))), (a_24, .inr (1, [.ref a_27, .ref a_28, .int i_9, .int i_10, .int i_11])), (a_27, .inl (cy 1, 2100, .inl f_1)), (a_25, .inr (1, [.ref a_29, .ref a_30, .int i_12, .int i_13, .int i_14])), (a_29, .inl (cy 1, 2100, .inl f_2)), (a_26, .inr (1, [.ref a_31, .ref a_32, .int i_15, .int i_16, .int i_17])), (a_31, .inl (cy 1, 2100, .inl f_3))]) (fun (r : Int32) (u : Unit) => mm_rg r (-2) 9) 0 0 := by
  refine mm_begin (lv := [(0, .ref a_0), (1, .int i_0)]) (by decide) (Nat.le_of_ble_eq_true rfl) rfl ?_
  intro p e s m below meth c A ls R args Q H locs hRe hQ hAe hx hb hr hlocks hml hown hnm hts hsz hA hS hP hK hD hZ hl
  have hRf : R.frames = 4 := by rw [hRe]
  have hRl : R.locals = 96 := by rw [hRe]
  have hRc : R.cells = 0 := by rw [hRe]
  have hRs : R.slots = 0 := by rw [hRe]
  refine lv_aload_n hx hb dX11_muted_0 rfl (lv_at hl 0 rfl) ?_
  refine lv_iload_n hx hb dX11_muted_1 rfl (lv_at hl 1 rfl) ?_
  refine mm_finir (va_runV (As := [.int i_0]) (rest := []) ⟨hx, hb, hml, hown, hts⟩ (K350_X11_isLand l G cy H.size a_0 i_0 a_1 a_2 a_3 a_4 a_5 a_6 a_7 a_8 a_9 a_10 a_11 a_12 a_13 i_1 i_2 i_3 i_4 i_5 i_6 i_7 i_8 a_14 a_15 a_16 a_17 a_18 a_19 a_20 a_21 a_22 a_23 h1) (cwV 1 hts (mm_gV mm_w626 mm_w627 mm_w628 mm_w2 mm_w629) rfl rfl rfl hd_X11_isLand ⟨by rw [hRf]; exact Nat.le_of_ble_eq_true rfl, by rw [hRl]; exact Nat.le_of_ble_eq_true rfl⟩) (mm_preV hK hZ hS hA hP hD [0, 1, 2] rfl rfl 0 rfl rfl rfl) rfl rfl hl.1 rfl (lv_room (Nat.le_of_ble_eq_true rfl)) dX11_muted_2 ⟨by rw [hRc]; exact Nat.le_of_ble_eq_true rfl, by rw [hRs]; exact Nat.le_of_ble_eq_true rfl⟩) hP hD hS hA [0, 1, 2] rfl (fun _ => rfl) ?_
  clear hP hD hS
  clear H locs
  intro v1 _u H locs hw hP hD hS
  rcases hw with ⟨rfl, w2⟩ | ⟨rfl, w3⟩
  · refine lv_if_eq (tgt := 16) hx hb dX11_muted_5 (by decide) (fun c4 => ?_) (fun c4 => ?_)
    · refine lv_bipush (v := (-2)) hx hb dX11_muted_16 (by decide) ?_
      subst hAe
      rw [hQ]
      exact W.iret (v := (-2)) hx hb hr (fun t ht hW => ⟨⟨(-2), (), rfl, (mm_wk mm_km2 (by decide)), by rw [ht]; exact hP, hK.warm hW, hD⟩, hS.F ht⟩) hS.2.2 dX11_muted_18
    · have q5 := mm_neL (lo := 1) (mm_ne c4) mm_k0 mm_k0 (by decide) (by decide)
      exact mm_no q5 (by decide)
  · refine lv_if_eq (tgt := 16) hx hb dX11_muted_5 (by decide) (fun c6 => ?_) (fun c6 => ?_)
    · exact mm_eqN c6.symm mm_k0 mm_k1 (by decide)
    · refine lv_aload_n hx hb dX11_muted_8 rfl (lv_at hl 0 rfl) ?_
      refine lv_iload_n hx hb dX11_muted_9 rfl (lv_at hl 1 rfl) ?_
      refine mm_finir (va_runV (As := [.int i_0]) (rest := []) ⟨hx, hb, hml, hown, hts⟩ (K366_X11_mostMute l G cy H.size a_0 i_0 a_1 a_2 a_3 a_4 a_5 a_6 a_7 a_8 a_9 a_10 a_11 a_12 a_13 i_1 i_2 i_3 i_4 i_5 i_6 i_7 i_8 a_14 a_15 a_16 a_17 a_18 a_19 a_20 a_21 a_22 a_23 f_0 a_24 a_25 a_26 a_27 a_28 i_9 i_10 i_11 f_1 a_29 a_30 i_12 i_13 i_14 f_2 a_31 a_32 i_15 i_16 i_17 f_3 w3 h0 h2 h3 h4 h5 h6 h7 h8) (cwV 1 hts (mm_gV mm_w789 mm_w790 mm_w791 mm_w2 mm_w792) rfl rfl rfl hd_X11_mostMute ⟨by rw [hRf]; exact Nat.le_of_ble_eq_true rfl, by rw [hRl]; exact Nat.le_of_ble_eq_true rfl⟩) (mm_preV hK hZ hS hA hP hD [0, 1, 2, 3, 4, 5, 6, 7, 8, 9, 10] rfl rfl 0 rfl rfl rfl) rfl rfl hl.1 rfl (lv_room (Nat.le_of_ble_eq_true rfl)) dX11_muted_10 ⟨by rw [hRc]; exact Nat.le_of_ble_eq_true rfl, by rw [hRs]; exact Nat.le_of_ble_eq_true rfl⟩) hP hD hS hA [0, 1, 2, 3, 4, 5, 6, 7, 8, 9, 10] rfl (fun _ => rfl) ?_
      clear hP hD hS
      clear H locs
      intro v7 _u H locs hw hP hD hS
      have w8 := hw
      refine lv_goto (tgt := 18) hx hb dX11_muted_13 (by decide) ?_
      subst hAe
      rw [hQ]
      exact W.iret (v := v7) hx hb hr (fun t ht hW => ⟨⟨v7, (), rfl, (mm_wk w8 (by decide)), by rw [ht]; exact hP, hK.warm hW, hD⟩, hS.F ht⟩) hS.2.2 dX11_muted_18

set_option maxHeartbeats 4000000 in
set_option maxRecDepth 100000 in
theorem K369_X10_unlikeWords (l : Launch) (G : va_G) (cy : Nat → ClassId) (sz : Nat) (a_0 : Nat) (i_0 : Int32) (i_1 : Int32) (i_2 : Int32) (i_3 : Int32) (a_1 : Nat) (a_2 : Nat) (i_4 : Int32) (i_5 : Int32) (i_6 : Int32) (i_7 : Int32) (i_8 : Int32) (i_9 : Int32) (i_10 : Int32) (i_11 : Int32) (a_3 : Nat) (a_4 : Nat) (a_5 : Nat) (a_6 : Nat) (a_7 : Nat) (a_8 : Nat) (a_9 : Nat) (a_10 : Nat) (a_11 : Nat) (a_12 : Nat) (f_0 : Nat → Int32) (a_13 : Nat) (a_14 : Nat) (a_15 : Nat) (a_16 : Nat) (a_17 : Nat) (i_12 : Int32) (i_13 : Int32) (i_14 : Int32) (f_1 : Nat → Int32) (a_18 : Nat) (a_19 : Nat) (i_15 : Int32) (i_16 : Int32) (i_17 : Int32) (f_2 : Nat → Int32) (a_20 : Nat) (a_21 : Nat) (i_18 : Int32) (i_19 : Int32) (i_20 : Int32) (f_3 : Nat → Int32) (h0 : mm_rg i_0 0 2) (h1 : mm_rg i_1 0 2147483647) (h2 : mm_rg i_2 0 2) (h3 : mm_rg i_3 0 2147483647) (h4 : mm_rg i_8 0 9) (h5 : mm_ar f_0 0 9) (h6 : mm_rg i_14 (-2147483648) 210) (h7 : mm_ar f_1 0 9) (h8 : mm_rg i_17 (-2147483648) 210) (h9 : mm_ar f_2 0 9) (h10 : mm_rg i_20 (-2147483648) 210) (h11 : mm_ar f_3 0 9)  : mm_CI l yX10_unlikeWords (mm_ws yX10_unlikeWords cX10_unlikeWords 7 (some .int)) ({ frames := 2, cells := 0, slots := 0, locals := 45 } : Room) G cy sz [(a_0, .inr (10, [.ref a_1, .ref a_2])), (a_1, .inr (0, [.int i_4, .int i_5, .int i_6, .int i_7, .int i_8, .int i_9, .int i_10, .int i_11, .ref a_3, .ref a_4, .ref a_5, .ref a_6, .ref a_7, .ref a_8, .ref a_9, .ref a_10, .ref a_11, .ref a_12])), (a_9, .inl (cy 1, 30, .inl f_0)), (a_2, .inl (cy 5, 3, .inr (.inr (.inr (.inr (va_up (va_up (va_up (fun _ => none) 0 (some a_13)) 1 (some a_14)) 2 (some a_15))))))), (a_13, .inr (1, [.ref a_16, .ref a_17, .int i_12, .int i_13, .int i_14])), (a_16, .inl (cy 1, 2100, .inl f_1)), (a_14, .inr (1, [.ref a_18, .ref a_19, .int i_15, .int i_16, .int i_17])), (a_18, .inl (cy 1, 2100, .inl f_2)), (a_15, .inr (1, [.ref a_20, .ref a_21, .int i_18, .int i_19, .int i_20])), (a_20, .inl (cy 1, 2100, .inl f_3))] [.ref a_0, .int i_0, .int i_1, .int i_2, .int i_3] (fun u : Unit => [(a_0, .inr (10, [.ref a_1, .ref a_2])), (a_1, .inr (0, [.int i_4, .int i_5, .int i_6, .int i_7, .int i_8, .int i_9, .int i_10, .int i_11, .ref a_3, .ref a_4, .ref a_5, .ref a_6, .ref a_7, .ref a_8, .ref a_9, .ref a_10, .ref a_11, .ref a_12])), (a_9, .inl (cy 1, 30, .inl f_0)), (a_2, .inl (cy 5, 3, .inr (.inr (.inr (.inr (va_up (va_up (va_up (fun _ => none) 0 (some a_13)) 1 (some a_14)) 2 (some a_15))))))), (a_13, .inr (1, [.ref a_16, .ref a_17, .int i_12, .int i_13, .int i_14])), (a_16, .inl (cy 1, 2100, .inl f_1)), (a_14, .inr (1, [.ref a_18, .ref a_19, .int i_15, .int i_16, .int i_17])), (a_18, .inl (cy 1, 2100, .inl f_2)), (a_15, .inr (1, [.ref a_20, .ref a_21, .int i_18, .int i_19, .int i_20])), (a_20, .inl (cy 1, 2100, .inl f_3))]) (fun (r : Int32) (u : Unit) => True) 0 0 := by
  refine mm_begin (lv := [(0, .ref a_0), (1, .int i_0), (2, .int i_1), (3, .int i_2), (4, .int i_3)]) (by decide) (Nat.le_of_ble_eq_true rfl) rfl ?_
  intro p e s m below meth c A ls R args Q H locs hRe hQ hAe hx hb hr hlocks hml hown hnm hts hsz hA hS hP hK hD hZ hl
  have hRf : R.frames = 2 := by rw [hRe]
  have hRl : R.locals = 45 := by rw [hRe]
  have hRc : R.cells = 0 := by rw [hRe]
  have hRs : R.slots = 0 := by rw [hRe]
  refine lv_iconst (v := 0) hx hb dX10_unlikeWords_0 (by decide) ?_
  refine lv_istore (lv' := [(5, .int 0), (0, .ref a_0), (1, .int i_0), (2, .int i_1), (3, .int i_2), (4, .int i_3)]) hx hb dX10_unlikeWords_1 hl (by decide) rfl ?_
  clear hl
  clear ls
  intro ls hl
  refine lv_iconst (v := 0) hx hb dX10_unlikeWords_3 (by decide) ?_
  refine lv_istore (lv' := [(6, .int 0), (5, .int 0), (0, .ref a_0), (1, .int i_0), (2, .int i_1), (3, .int i_2), (4, .int i_3)]) hx hb dX10_unlikeWords_4 hl (by decide) rfl ?_
  clear hl
  clear ls
  intro ls hl
  have L6_250 : ∀ (n : Nat) (x6_6_249 : Int32) (x6_5_250 : Int32), mm_rg x6_6_249 0 10 → (10 - x6_6_249.toInt).toNat < n → ∀ (H : Heap) (locs : List Loc), va_P G vwCl [(a_0, .inr (10, [.ref a_1, .ref a_2])), (a_1, .inr (0, [.int i_4, .int i_5, .int i_6, .int i_7, .int i_8, .int i_9, .int i_10, .int i_11, .ref a_3, .ref a_4, .ref a_5, .ref a_6, .ref a_7, .ref a_8, .ref a_9, .ref a_10, .ref a_11, .ref a_12])), (a_9, .inl (cy 1, 30, .inl f_0)), (a_2, .inl (cy 5, 3, .inr (.inr (.inr (.inr (va_up (va_up (va_up (fun _ => none) 0 (some a_13)) 1 (some a_14)) 2 (some a_15))))))), (a_13, .inr (1, [.ref a_16, .ref a_17, .int i_12, .int i_13, .int i_14])), (a_16, .inl (cy 1, 2100, .inl f_1)), (a_14, .inr (1, [.ref a_18, .ref a_19, .int i_15, .int i_16, .int i_17])), (a_18, .inl (cy 1, 2100, .inl f_2)), (a_15, .inr (1, [.ref a_20, .ref a_21, .int i_18, .int i_19, .int i_20])), (a_20, .inl (cy 1, 2100, .inl f_3))] H → va_D A [(a_0, .inr (10, [.ref a_1, .ref a_2])), (a_1, .inr (0, [.int i_4, .int i_5, .int i_6, .int i_7, .int i_8, .int i_9, .int i_10, .int i_11, .ref a_3, .ref a_4, .ref a_5, .ref a_6, .ref a_7, .ref a_8, .ref a_9, .ref a_10, .ref a_11, .ref a_12])), (a_9, .inl (cy 1, 30, .inl f_0)), (a_2, .inl (cy 5, 3, .inr (.inr (.inr (.inr (va_up (va_up (va_up (fun _ => none) 0 (some a_13)) 1 (some a_14)) 2 (some a_15))))))), (a_13, .inr (1, [.ref a_16, .ref a_17, .int i_12, .int i_13, .int i_14])), (a_16, .inl (cy 1, 2100, .inl f_1)), (a_14, .inr (1, [.ref a_18, .ref a_19, .int i_15, .int i_16, .int i_17])), (a_18, .inl (cy 1, 2100, .inl f_2)), (a_15, .inr (1, [.ref a_20, .ref a_21, .int i_18, .int i_19, .int i_20])), (a_20, .inl (cy 1, 2100, .inl f_3))] → va_S A s.heap H locs → ∀ (ls : Array Slot), lv_has ls 7 [(6, .int x6_6_249), (5, .int x6_5_250), (0, .ref a_0), (1, .int i_0), (2, .int i_1), (3, .int i_2), (4, .int i_3)] → W p l e R s m args below meth c H locs 0 0 Q (F0 m 6 ls []) := by
    intro n
    induction n with
    | zero => intro x6_6_249 x6_5_250 rx6_6_249 hm; exact absurd hm (Nat.not_lt_zero _)
    | succ n ih6 =>
      intro x6_6_249 x6_5_250 rx6_6_249 hm6 H locs hP hD hS ls hl
      refine lv_iload hx hb dX10_unlikeWords_6 (lv_at hl 0 rfl) ?_
      refine lv_aload_n hx hb dX10_unlikeWords_8 rfl (lv_at hl 2 rfl) ?_
      refine va_get (D := G) (ci := 10) (v := .ref a_1) (C := RX10) (T := TX10) (N := 2) hx hb hts (mm_i inlX10) hown hK.1 hP 0 rfl rfl 0 (by decide) (mm_h hts mm_w87) (fun _ h9 => h9) rfl dX10_unlikeWords_9 ?_
      refine va_get (D := G) (ci := 0) (v := .int i_8) (C := RX0) (T := TX0) (N := 18) hx hb hts (mm_i inlX0) hown hK.1 hP 1 rfl rfl 4 (by decide) (mm_h hts mm_w729) (fun _ h9 => h9) rfl dX10_unlikeWords_12 ?_
      refine lv_icmp_gt (tgt := 47) hx hb dX10_unlikeWords_15 (by decide) (fun c252 => ?_) (fun c252 => ?_)
      · have q253 := mm_ltR (lo := 1) (mm_lt c252) h4 rx6_6_249 (by decide)
        refine lv_iload hx hb dX10_unlikeWords_47 (lv_at hl 1 rfl) ?_
        subst hAe
        rw [hQ]
        exact W.iret (v := x6_5_250) hx hb hr (fun t ht hW => ⟨⟨x6_5_250, (), rfl, trivial, by rw [ht]; exact hP, hK.warm hW, hD⟩, hS.F ht⟩) hS.2.2 dX10_unlikeWords_49
      · have q254 := mm_leL (mm_nlt c252) rx6_6_249 h4
        refine lv_aload_n hx hb dX10_unlikeWords_18 rfl (lv_at hl 2 rfl) ?_
        refine lv_iload_n hx hb dX10_unlikeWords_19 rfl (lv_at hl 3 rfl) ?_
        refine lv_iload_n hx hb dX10_unlikeWords_20 rfl (lv_at hl 4 rfl) ?_
        refine lv_iload hx hb dX10_unlikeWords_21 (lv_at hl 0 rfl) ?_
        refine mm_finir (va_runV (As := [.int i_0, .int i_1, .int x6_6_249]) (rest := []) ⟨hx, hb, hml, hown, hts⟩ (K355_X10_meaning l G cy H.size a_0 i_0 i_1 x6_6_249 a_1 a_2 i_4 i_5 i_6 i_7 i_8 i_9 i_10 i_11 a_3 a_4 a_5 a_6 a_7 a_8 a_9 a_10 a_11 a_12 f_0 a_13 a_14 a_15 a_16 a_17 i_12 i_13 i_14 f_1 a_18 a_19 i_15 i_16 i_17 f_2 a_20 a_21 i_18 i_19 i_20 f_3 h0 h1 q254 h5 h6 h7 h8 h9 h10 h11) (cwV 3 hts (mm_gV mm_w730 mm_w666 mm_w667 mm_w23 mm_w668) rfl rfl rfl hd_X10_meaning ⟨by rw [hRf]; exact Nat.le_of_ble_eq_true rfl, by rw [hRl]; exact Nat.le_of_ble_eq_true rfl⟩) (mm_preV hK hZ hS hA hP hD [0, 1, 2, 3, 4, 5, 6, 7, 8, 9] rfl rfl 0 rfl rfl rfl) rfl rfl hl.1 rfl (lv_room (Nat.le_of_ble_eq_true rfl)) dX10_unlikeWords_23 ⟨by rw [hRc]; exact Nat.le_of_ble_eq_true rfl, by rw [hRs]; exact Nat.le_of_ble_eq_true rfl⟩) hP hD hS hA [0, 1, 2, 3, 4, 5, 6, 7, 8, 9] rfl (fun _ => rfl) ?_
        clear hP hD hS
        clear H locs
        intro v255 _u H locs hw hP hD hS
        have w256 := hw
        refine lv_aload_n hx hb dX10_unlikeWords_26 rfl (lv_at hl 2 rfl) ?_
        refine lv_iload_n hx hb dX10_unlikeWords_27 rfl (lv_at hl 5 rfl) ?_
        refine lv_iload hx hb dX10_unlikeWords_28 (lv_at hl 6 rfl) ?_
        refine lv_iload hx hb dX10_unlikeWords_30 (lv_at hl 0 rfl) ?_
        refine mm_finir (va_runV (As := [.int i_2, .int i_3, .int x6_6_249]) (rest := [.int v255]) ⟨hx, hb, hml, hown, hts⟩ (K355_X10_meaning l G cy H.size a_0 i_2 i_3 x6_6_249 a_1 a_2 i_4 i_5 i_6 i_7 i_8 i_9 i_10 i_11 a_3 a_4 a_5 a_6 a_7 a_8 a_9 a_10 a_11 a_12 f_0 a_13 a_14 a_15 a_16 a_17 i_12 i_13 i_14 f_1 a_18 a_19 i_15 i_16 i_17 f_2 a_20 a_21 i_18 i_19 i_20 f_3 h2 h3 q254 h5 h6 h7 h8 h9 h10 h11) (cwV 3 hts (mm_gV mm_w730 mm_w666 mm_w667 mm_w23 mm_w668) rfl rfl rfl hd_X10_meaning ⟨by rw [hRf]; exact Nat.le_of_ble_eq_true rfl, by rw [hRl]; exact Nat.le_of_ble_eq_true rfl⟩) (mm_preV hK hZ hS hA hP hD [0, 1, 2, 3, 4, 5, 6, 7, 8, 9] rfl rfl 0 rfl rfl rfl) rfl rfl hl.1 rfl (lv_room (Nat.le_of_ble_eq_true rfl)) dX10_unlikeWords_32 ⟨by rw [hRc]; exact Nat.le_of_ble_eq_true rfl, by rw [hRs]; exact Nat.le_of_ble_eq_true rfl⟩) hP hD hS hA [0, 1, 2, 3, 4, 5, 6, 7, 8, 9] rfl (fun _ => rfl) ?_
        clear hP hD hS
        clear H locs
        intro v257 _u H locs hw hP hD hS
        have w258 := hw
        refine lv_icmp_eq (tgt := 41) hx hb dX10_unlikeWords_35 (by decide) (fun c259 => ?_) (fun c259 => ?_)
        · obtain ⟨v260, ev260⟩ : ∃ y : Int32, y = x6_6_249 + 1 := ⟨_, rfl⟩
          refine lv_iinc (v := v260) (lv' := [(6, .int v260), (5, .int x6_5_250), (0, .ref a_0), (1, .int i_0), (2, .int i_1), (3, .int i_2), (4, .int i_3)]) hx hb dX10_unlikeWords_41 hl (k := 0) rfl (by rw [ev260]; rfl) (by decide) rfl ?_
          clear hl
          clear ls
          intro ls hl
          have rv260 : mm_rg v260 1 10 := mm_add ev260 q254 mm_k1 (by decide) (by decide)
          have tv260 := mm_addEc ev260 q254 mm_k1 (by decide) (k := 1) (by decide)
          refine lv_goto (tgt := 6) hx hb dX10_unlikeWords_44 (by decide) ?_
          exact ih6 v260 x6_5_250 (mm_wk rv260 (by decide)) (mm_mu hm6 tv260 (by decide) (rv260).2 (by decide)) H locs hP hD hS ls (lv_sub hl [0, 1, 2, 3, 4, 5, 6] rfl)
        · obtain ⟨v261, ev261⟩ : ∃ y : Int32, y = x6_5_250 + 1 := ⟨_, rfl⟩
          refine lv_iinc (v := v261) (lv' := [(5, .int v261), (6, .int x6_6_249), (0, .ref a_0), (1, .int i_0), (2, .int i_1), (3, .int i_2), (4, .int i_3)]) hx hb dX10_unlikeWords_38 hl (k := 1) rfl (by rw [ev261]; rfl) (by decide) rfl ?_
          clear hl
          clear ls
          intro ls hl
          obtain ⟨v262, ev262⟩ : ∃ y : Int32, y = x6_6_249 + 1 := ⟨_, rfl⟩
          refine lv_iinc (v := v262) (lv' := [(6, .int v262), (5, .int v261), (0, .ref a_0), (1, .int i_0), (2, .int i_1), (3, .int i_2), (4, .int i_3)]) hx hb dX10_unlikeWords_41 hl (k := 1) rfl (by rw [ev262]; rfl) (by decide) rfl ?_
          clear hl
          clear ls
          intro ls hl
          have rv262 : mm_rg v262 1 10 := mm_add ev262 q254 mm_k1 (by decide) (by decide)
          have tv262 := mm_addEc ev262 q254 mm_k1 (by decide) (k := 1) (by decide)
          refine lv_goto (tgt := 6) hx hb dX10_unlikeWords_44 (by decide) ?_
          exact ih6 v262 v261 (mm_wk rv262 (by decide)) (mm_mu hm6 tv262 (by decide) (rv262).2 (by decide)) H locs hP hD hS ls (lv_sub hl [0, 1, 2, 3, 4, 5, 6] rfl)
  exact L6_250 _ 0 0 (mm_wk mm_k0 (by decide)) (Nat.lt_succ_self _) H locs hP hD hS ls (lv_sub hl [0, 1, 2, 3, 4, 5, 6] rfl)

set_option maxHeartbeats 4000000 in
set_option maxRecDepth 100000 in
theorem K370_X11_stays (l : Launch) (G : va_G) (cy : Nat → ClassId) (sz : Nat) (a_0 : Nat) (i_0 : Int32) (i_1 : Int32) (a_1 : Nat) (a_2 : Nat) (a_3 : Nat) (a_4 : Nat) (a_5 : Nat) (a_6 : Nat) (a_7 : Nat) (a_8 : Nat) (a_9 : Nat) (a_10 : Nat) (a_11 : Nat) (a_12 : Nat) (a_13 : Nat) (i_2 : Int32) (i_3 : Int32) (i_4 : Int32) (i_5 : Int32) (i_6 : Int32) (i_7 : Int32) (i_8 : Int32) (i_9 : Int32) (a_14 : Nat) (a_15 : Nat) (a_16 : Nat) (a_17 : Nat) (a_18 : Nat) (a_19 : Nat) (a_20 : Nat) (a_21 : Nat) (a_22 : Nat) (a_23 : Nat) (f_0 : Nat → Int32) (a_24 : Nat) (a_25 : Nat) (a_26 : Nat) (a_27 : Nat) (a_28 : Nat) (i_10 : Int32) (i_11 : Int32) (i_12 : Int32) (f_1 : Nat → Int32) (a_29 : Nat) (a_30 : Nat) (i_13 : Int32) (i_14 : Int32) (i_15 : Int32) (f_2 : Nat → Int32) (a_31 : Nat) (a_32 : Nat) (i_16 : Int32) (i_17 : Int32) (i_18 : Int32) (f_3 : Nat → Int32) (h0 : mm_rg i_6 0 9) (h1 : mm_rg i_7 0 3) (h2 : mm_ar f_0 0 9) (h3 : mm_rg i_12 (-2147483648) 210) (h4 : mm_ar f_1 0 9) (h5 : mm_rg i_15 (-2147483648) 210) (h6 : mm_ar f_2 0 9) (h7 : mm_rg i_18 (-2147483648) 210) (h8 : mm_ar f_3 0 9)  : mm_CI l yX11_stays (mm_ws yX11_stays cX11_stays 3 (some .int)) ({ frames := 3, cells := 0, slots := 0, locals := 71 } : Room) G cy sz [(a_0, .inr (11, [.ref a_1, .ref a_2, .ref a_3, .ref a_4, .ref a_5, .ref a_6, .ref a_7, .ref a_8, .ref a_9, .ref a_10, .ref a_11])), (a_3, .inr (10, [.ref a_12, .ref a_13])), (a_12, .inr (0, [.int i_2, .int i_3, .int i_4, .int i_5, .int i_6, .int i_7, .int i_8, .int i_9, .ref a_14, .ref a_15, .ref a_16, .ref a_17, .ref a_18, .ref a_19, .ref a_20, .ref a_21, .ref a_22, .ref a_23])), (a_20, .inl (cy 1, 30, .inl f_0)), (a_13, .inl (cy 5, 3, .inr (.inr (.inr (.inr (va_up (va_up (va_up (fun _ => none) 0 (some a_24)) 1 (some a_25)) 2 (some a_26))))))), (a_24, .inr (1, [.ref a_27, .ref a_28, .int i_10, .int i_11, .int i_12])), (a_27, .inl (cy 1, 2100, .inl f_1)), (a_25, .inr (1, [.ref a_29, .ref a_30, .int i_13, .int i_14, .int i_15])), (a_29, .inl (cy 1, 2100, .inl f_2)), (a_26, .inr (1, [.ref a_31, .ref a_32, .int i_16, .int i_17, .int i_18])), (a_31, .inl (cy 1, 2100, .inl f_3))] [.ref a_0, .int i_0, .int i_1] (fun u : Unit => [(a_0, .inr (11, [.ref a_1, .ref a_2, .ref a_3, .ref a_4, .ref a_5, .ref a_6, .ref a_7, .ref a_8, .ref a_9, .ref a_10, .ref a_11])), (a_3, .inr (10, [.ref a_12, .ref a_13])), (a_12, .inr (0, [.int i_2, .int i_3, .int i_4, .int i_5, .int i_6, .int i_7, .int i_8, .int i_9, .ref a_14, .ref a_15, .ref a_16, .ref a_17, .ref a_18, .ref a_19, .ref a_20, .ref a_21, .ref a_22, .ref a_23])), (a_20, .inl (cy 1, 30, .inl f_0)), (a_13, .inl (cy 5, 3, .inr (.inr (.inr (.inr (va_up (va_up (va_up (fun _ => none) 0 (some a_24)) 1 (some a_25)) 2 (some a_26))))))), (a_24, .inr (1, [.ref a_27, .ref a_28, .int i_10, .int i_11, .int i_12])), (a_27, .inl (cy 1, 2100, .inl f_1)), (a_25, .inr (1, [.ref a_29, .ref a_30, .int i_13, .int i_14, .int i_15])), (a_29, .inl (cy 1, 2100, .inl f_2)), (a_26, .inr (1, [.ref a_31, .ref a_32, .int i_16, .int i_17, .int i_18])), (a_31, .inl (cy 1, 2100, .inl f_3))]) (fun (r : Int32) (u : Unit) => True) 0 0 := by
  refine mm_begin (lv := [(0, .ref a_0), (1, .int i_0), (2, .int i_1)]) (by decide) (Nat.le_of_ble_eq_true rfl) rfl ?_
  intro p e s m below meth c A ls R args Q H locs hRe hQ hAe hx hb hr hlocks hml hown hnm hts hsz hA hS hP hK hD hZ hl
  have hRf : R.frames = 3 := by rw [hRe]
  have hRl : R.locals = 71 := by rw [hRe]
  have hRc : R.cells = 0 := by rw [hRe]
  have hRs : R.slots = 0 := by rw [hRe]
  refine lv_aload_n hx hb dX11_stays_0 rfl (lv_at hl 0 rfl) ?_
  refine lv_iload_n hx hb dX11_stays_1 rfl (lv_at hl 1 rfl) ?_
  refine mm_finir (va_runV (As := [.int i_0]) (rest := []) ⟨hx, hb, hml, hown, hts⟩ (K350_X11_isLand l G cy H.size a_0 i_0 a_1 a_2 a_3 a_4 a_5 a_6 a_7 a_8 a_9 a_10 a_11 a_12 a_13 i_2 i_3 i_4 i_5 i_6 i_7 i_8 i_9 a_14 a_15 a_16 a_17 a_18 a_19 a_20 a_21 a_22 a_23 h1) (cwV 1 hts (mm_gV mm_w626 mm_w627 mm_w628 mm_w2 mm_w629) rfl rfl rfl hd_X11_isLand ⟨by rw [hRf]; exact Nat.le_of_ble_eq_true rfl, by rw [hRl]; exact Nat.le_of_ble_eq_true rfl⟩) (mm_preV hK hZ hS hA hP hD [0, 1, 2] rfl rfl 0 rfl rfl rfl) rfl rfl hl.1 rfl (lv_room (Nat.le_of_ble_eq_true rfl)) dX11_stays_2 ⟨by rw [hRc]; exact Nat.le_of_ble_eq_true rfl, by rw [hRs]; exact Nat.le_of_ble_eq_true rfl⟩) hP hD hS hA [0, 1, 2] rfl (fun _ => rfl) ?_
  clear hP hD hS
  clear H locs
  intro v1 _u H locs hw hP hD hS
  rcases hw with ⟨rfl, w2⟩ | ⟨rfl, w3⟩
  · refine lv_if_eq (tgt := 15) hx hb dX11_stays_5 (by decide) (fun c4 => ?_) (fun c4 => ?_)
    · refine lv_bipush (v := (-2)) hx hb dX11_stays_15 (by decide) ?_
      subst hAe
      rw [hQ]
      exact W.iret (v := (-2)) hx hb hr (fun t ht hW => ⟨⟨(-2), (), rfl, trivial, by rw [ht]; exact hP, hK.warm hW, hD⟩, hS.F ht⟩) hS.2.2 dX11_stays_17
    · have q5 := mm_neL (lo := 1) (mm_ne c4) mm_k0 mm_k0 (by decide) (by decide)
      exact mm_no q5 (by decide)
  · refine lv_if_eq (tgt := 15) hx hb dX11_stays_5 (by decide) (fun c6 => ?_) (fun c6 => ?_)
    · exact mm_eqN c6.symm mm_k0 mm_k1 (by decide)
    · refine lv_iload_n hx hb dX11_stays_8 rfl (lv_at hl 2 rfl) ?_
      refine mm_finir (va_runS (As := [.int i_1]) (rest := []) ⟨hx, hb, hml, hown, hts⟩ (K353_X11_isDay l G cy H.size i_1 ) (va_cwS 1 hts (mm_gS mm_w661 mm_w662 mm_w2 mm_w663) rfl rfl rfl hs_X11_isDay ⟨by rw [hRf]; exact Nat.le_of_ble_eq_true rfl, by rw [hRl]; exact Nat.le_of_ble_eq_true rfl⟩) (mm_preS hK hZ hS hA hP hD [] rfl rfl) rfl rfl hl.1 rfl (lv_room (Nat.le_of_ble_eq_true rfl)) dX11_stays_9 ⟨by rw [hRc]; exact Nat.le_of_ble_eq_true rfl, by rw [hRs]; exact Nat.le_of_ble_eq_true rfl⟩) hP hD hS hA [] rfl (fun _ => rfl) ?_
      clear hP hD hS
      clear H locs
      intro v7 _u H locs hw hP hD hS
      rcases hw with ⟨rfl, w8⟩ | ⟨rfl, w9⟩
      · refine lv_if_ne (tgt := 18) hx hb dX11_stays_12 (by decide) (fun c10 => ?_) (fun c10 => ?_)
        · have q11 := mm_neL (lo := 1) (mm_ne c10) mm_k0 mm_k0 (by decide) (by decide)
          exact mm_no q11 (by decide)
        · refine lv_bipush (v := (-2)) hx hb dX11_stays_15 (by decide) ?_
          subst hAe
          rw [hQ]
          exact W.iret (v := (-2)) hx hb hr (fun t ht hW => ⟨⟨(-2), (), rfl, trivial, by rw [ht]; exact hP, hK.warm hW, hD⟩, hS.F ht⟩) hS.2.2 dX11_stays_17
      · refine lv_if_ne (tgt := 18) hx hb dX11_stays_12 (by decide) (fun c12 => ?_) (fun c12 => ?_)
        · refine lv_aload_n hx hb dX11_stays_18 rfl (lv_at hl 0 rfl) ?_
          refine va_get (D := G) (ci := 11) (v := .ref a_3) (C := RX11) (T := TX11) (N := 11) hx hb hts (mm_i inlX11) hown hK.1 hP 0 rfl rfl 2 (by decide) (mm_h hts mm_w24) (fun _ h9 => h9) rfl dX11_stays_19 ?_
          refine va_get (D := G) (ci := 10) (v := .ref a_12) (C := RX10) (T := TX10) (N := 2) hx hb hts (mm_i inlX10) hown hK.1 hP 1 rfl rfl 0 (by decide) (mm_h hts mm_w199) (fun _ h9 => h9) rfl dX11_stays_22 ?_
          refine mm_finir (va_runV (As := []) (rest := []) ⟨hx, hb, hml, hown, hts⟩ (K107_X0_wordCount l G cy H.size a_12 i_2 i_3 i_4 i_5 i_6 i_7 i_8 i_9 a_14 a_15 a_16 a_17 a_18 a_19 a_20 a_21 a_22 a_23 h0) (cwV 0 hts (mm_gV mm_w635 mm_w349 mm_w350 mm_w28 mm_w351) rfl rfl rfl hd_X0_wordCount ⟨by rw [hRf]; exact Nat.le_of_ble_eq_true rfl, by rw [hRl]; exact Nat.le_of_ble_eq_true rfl⟩) (mm_preV hK hZ hS hA hP hD [2] rfl rfl 2 rfl rfl rfl) rfl rfl hl.1 rfl (lv_room (Nat.le_of_ble_eq_true rfl)) dX11_stays_25 ⟨by rw [hRc]; exact Nat.le_of_ble_eq_true rfl, by rw [hRs]; exact Nat.le_of_ble_eq_true rfl⟩) hP hD hS hA [2] rfl (fun _ => rfl) ?_
          clear hP hD hS
          clear H locs
          intro v13 _u H locs hw hP hD hS
          have w14 := hw
          refine lv_aload_n hx hb dX11_stays_28 rfl (lv_at hl 0 rfl) ?_
          refine va_get (D := G) (ci := 11) (v := .ref a_3) (C := RX11) (T := TX11) (N := 11) hx hb hts (mm_i inlX11) hown hK.1 hP 0 rfl rfl 2 (by decide) (mm_h hts mm_w24) (fun _ h9 => h9) rfl dX11_stays_29 ?_
          refine lv_iload_n hx hb dX11_stays_32 rfl (lv_at hl 1 rfl) ?_
          refine lv_iload_n hx hb dX11_stays_33 rfl (lv_at hl 2 rfl) ?_
          refine lv_iload_n hx hb dX11_stays_34 rfl (lv_at hl 1 rfl) ?_
          refine lv_iconst (v := 0) hx hb dX11_stays_35 (by decide) ?_
          refine mm_finir (va_runV (As := [.int i_0, .int i_1, .int i_0, .int 0]) (rest := [.int v13]) ⟨hx, hb, hml, hown, hts⟩ (K369_X10_unlikeWords l G cy H.size a_3 i_0 i_1 i_0 0 a_12 a_13 i_2 i_3 i_4 i_5 i_6 i_7 i_8 i_9 a_14 a_15 a_16 a_17 a_18 a_19 a_20 a_21 a_22 a_23 f_0 a_24 a_25 a_26 a_27 a_28 i_10 i_11 i_12 f_1 a_29 a_30 i_13 i_14 i_15 f_2 a_31 a_32 i_16 i_17 i_18 f_3 w3 (mm_wk w9 (by decide)) w3 (mm_wk mm_k0 (by decide)) h0 h2 h3 h4 h5 h6 h7 h8) (cwV 4 hts (mm_gV mm_w813 mm_w814 mm_w815 mm_w23 mm_w816) rfl rfl rfl hd_X10_unlikeWords ⟨by rw [hRf]; exact Nat.le_of_ble_eq_true rfl, by rw [hRl]; exact Nat.le_of_ble_eq_true rfl⟩) (mm_preV hK hZ hS hA hP hD [1, 2, 3, 4, 5, 6, 7, 8, 9, 10] rfl rfl 1 rfl rfl rfl) rfl rfl hl.1 rfl (lv_room (Nat.le_of_ble_eq_true rfl)) dX11_stays_36 ⟨by rw [hRc]; exact Nat.le_of_ble_eq_true rfl, by rw [hRs]; exact Nat.le_of_ble_eq_true rfl⟩) hP hD hS hA [1, 2, 3, 4, 5, 6, 7, 8, 9, 10] rfl (fun _ => rfl) ?_
          clear hP hD hS
          clear H locs
          intro v15 _u H locs hw hP hD hS
          refine lv_isub hx hb dX11_stays_39 ?_
          refine lv_topi (fun v16 ev16 => ?_)
          subst hAe
          rw [hQ]
          exact W.iret (v := v16) hx hb hr (fun t ht hW => ⟨⟨v16, (), rfl, trivial, by rw [ht]; exact hP, hK.warm hW, hD⟩, hS.F ht⟩) hS.2.2 dX11_stays_40
        · exact mm_eqN c12.symm mm_k0 mm_k1 (by decide)

set_option maxHeartbeats 4000000 in
set_option maxRecDepth 100000 in
theorem K371_X11_isReading (l : Launch) (G : va_G) (cy : Nat → ClassId) (sz : Nat) (a_0 : Nat) (i_0 : Int32) (i_1 : Int32) (i_2 : Int32) (a_1 : Nat) (a_2 : Nat) (a_3 : Nat) (a_4 : Nat) (a_5 : Nat) (a_6 : Nat) (a_7 : Nat) (a_8 : Nat) (a_9 : Nat) (a_10 : Nat) (a_11 : Nat) (a_12 : Nat) (a_13 : Nat) (i_3 : Int32) (i_4 : Int32) (i_5 : Int32) (i_6 : Int32) (i_7 : Int32) (i_8 : Int32) (i_9 : Int32) (i_10 : Int32) (a_14 : Nat) (a_15 : Nat) (a_16 : Nat) (a_17 : Nat) (a_18 : Nat) (a_19 : Nat) (a_20 : Nat) (a_21 : Nat) (a_22 : Nat) (a_23 : Nat) (h0 : mm_rg i_8 0 3) (h1 : mm_rg i_9 0 6)  : mm_CI l yX11_isReading (mm_ws yX11_isReading cX11_isReading 4 (some .boolean)) ({ frames := 1, cells := 0, slots := 0, locals := 21 } : Room) G cy sz [(a_0, .inr (11, [.ref a_1, .ref a_2, .ref a_3, .ref a_4, .ref a_5, .ref a_6, .ref a_7, .ref a_8, .ref a_9, .ref a_10, .ref a_11])), (a_3, .inr (10, [.ref a_12, .ref a_13])), (a_12, .inr (0, [.int i_3, .int i_4, .int i_5, .int i_6, .int i_7, .int i_8, .int i_9, .int i_10, .ref a_14, .ref a_15, .ref a_16, .ref a_17, .ref a_18, .ref a_19, .ref a_20, .ref a_21, .ref a_22, .ref a_23]))] [.ref a_0, .int i_0, .int i_1, .int i_2] (fun u : Unit => [(a_0, .inr (11, [.ref a_1, .ref a_2, .ref a_3, .ref a_4, .ref a_5, .ref a_6, .ref a_7, .ref a_8, .ref a_9, .ref a_10, .ref a_11])), (a_3, .inr (10, [.ref a_12, .ref a_13])), (a_12, .inr (0, [.int i_3, .int i_4, .int i_5, .int i_6, .int i_7, .int i_8, .int i_9, .int i_10, .ref a_14, .ref a_15, .ref a_16, .ref a_17, .ref a_18, .ref a_19, .ref a_20, .ref a_21, .ref a_22, .ref a_23]))]) (fun (r : Int32) (u : Unit) => ((0 = r) ∨ (1 = r ∧ mm_rg i_0 0 2 ∧ mm_rg i_1 0 1000000000 ∧ mm_rg i_2 0 5))) 0 0 := by
  refine mm_begin (lv := [(0, .ref a_0), (1, .int i_0), (2, .int i_1), (3, .int i_2)]) (by decide) (Nat.le_of_ble_eq_true rfl) rfl ?_
  intro p e s m below meth c A ls R args Q H locs hRe hQ hAe hx hb hr hlocks hml hown hnm hts hsz hA hS hP hK hD hZ hl
  have hRf : R.frames = 1 := by rw [hRe]
  have hRl : R.locals = 21 := by rw [hRe]
  have hRc : R.cells = 0 := by rw [hRe]
  have hRs : R.slots = 0 := by rw [hRe]
  refine lv_aload_n hx hb dX11_isReading_0 rfl (lv_at hl 0 rfl) ?_
  refine lv_iload_n hx hb dX11_isReading_1 rfl (lv_at hl 1 rfl) ?_
  refine mm_finir (va_runV (As := [.int i_0]) (rest := []) ⟨hx, hb, hml, hown, hts⟩ (K350_X11_isLand l G cy H.size a_0 i_0 a_1 a_2 a_3 a_4 a_5 a_6 a_7 a_8 a_9 a_10 a_11 a_12 a_13 i_3 i_4 i_5 i_6 i_7 i_8 i_9 i_10 a_14 a_15 a_16 a_17 a_18 a_19 a_20 a_21 a_22 a_23 h0) (cwV 1 hts (mm_gV mm_w626 mm_w627 mm_w628 mm_w2 mm_w629) rfl rfl rfl hd_X11_isLand ⟨by rw [hRf]; exact Nat.le_of_ble_eq_true rfl, by rw [hRl]; exact Nat.le_of_ble_eq_true rfl⟩) (mm_preV hK hZ hS hA hP hD [0, 1, 2] rfl rfl 0 rfl rfl rfl) rfl rfl hl.1 rfl (lv_room (Nat.le_of_ble_eq_true rfl)) dX11_isReading_2 ⟨by rw [hRc]; exact Nat.le_of_ble_eq_true rfl, by rw [hRs]; exact Nat.le_of_ble_eq_true rfl⟩) hP hD hS hA [0, 1, 2] rfl (fun _ => rfl) ?_
  clear hP hD hS
  clear H locs
  intro v1 _u H locs hw hP hD hS
  rcases hw with ⟨rfl, w2⟩ | ⟨rfl, w3⟩
  · refine lv_if_eq (tgt := 27) hx hb dX11_isReading_5 (by decide) (fun c4 => ?_) (fun c4 => ?_)
    · refine lv_iconst (v := 0) hx hb dX11_isReading_27 (by decide) ?_
      subst hAe
      rw [hQ]
      exact W.zret (v := 0) hx hb hr rfl (fun t ht hW => ⟨⟨0, (), rfl, (Or.inl rfl), by rw [ht]; exact hP, hK.warm hW, hD⟩, hS.F ht⟩) hS.2.2 dX11_isReading_28
    · have q5 := mm_neL (lo := 1) (mm_ne c4) mm_k0 mm_k0 (by decide) (by decide)
      exact mm_no q5 (by decide)
  · refine lv_if_eq (tgt := 27) hx hb dX11_isReading_5 (by decide) (fun c6 => ?_) (fun c6 => ?_)
    · exact mm_eqN c6.symm mm_k0 mm_k1 (by decide)
    · refine lv_iload_n hx hb dX11_isReading_8 rfl (lv_at hl 2 rfl) ?_
      refine mm_finir (va_runS (As := [.int i_1]) (rest := []) ⟨hx, hb, hml, hown, hts⟩ (K353_X11_isDay l G cy H.size i_1 ) (va_cwS 1 hts (mm_gS mm_w661 mm_w662 mm_w2 mm_w663) rfl rfl rfl hs_X11_isDay ⟨by rw [hRf]; exact Nat.le_of_ble_eq_true rfl, by rw [hRl]; exact Nat.le_of_ble_eq_true rfl⟩) (mm_preS hK hZ hS hA hP hD [] rfl rfl) rfl rfl hl.1 rfl (lv_room (Nat.le_of_ble_eq_true rfl)) dX11_isReading_9 ⟨by rw [hRc]; exact Nat.le_of_ble_eq_true rfl, by rw [hRs]; exact Nat.le_of_ble_eq_true rfl⟩) hP hD hS hA [] rfl (fun _ => rfl) ?_
      clear hP hD hS
      clear H locs
      intro v7 _u H locs hw hP hD hS
      rcases hw with ⟨rfl, w8⟩ | ⟨rfl, w9⟩
      · refine lv_if_eq (tgt := 27) hx hb dX11_isReading_12 (by decide) (fun c10 => ?_) (fun c10 => ?_)
        · refine lv_iconst (v := 0) hx hb dX11_isReading_27 (by decide) ?_
          subst hAe
          rw [hQ]
          exact W.zret (v := 0) hx hb hr rfl (fun t ht hW => ⟨⟨0, (), rfl, (Or.inl rfl), by rw [ht]; exact hP, hK.warm hW, hD⟩, hS.F ht⟩) hS.2.2 dX11_isReading_28
        · have q11 := mm_neL (lo := 1) (mm_ne c10) mm_k0 mm_k0 (by decide) (by decide)
          exact mm_no q11 (by decide)
      · refine lv_if_eq (tgt := 27) hx hb dX11_isReading_12 (by decide) (fun c12 => ?_) (fun c12 => ?_)
        · exact mm_eqN c12.symm mm_k0 mm_k1 (by decide)
        · refine lv_aload_n hx hb dX11_isReading_15 rfl (lv_at hl 0 rfl) ?_
          refine lv_iload_n hx hb dX11_isReading_16 rfl (lv_at hl 3 rfl) ?_
          refine mm_finir (va_runV (As := [.int i_2]) (rest := []) ⟨hx, hb, hml, hown, hts⟩ (K347_X11_isText l G cy H.size a_0 i_2 a_1 a_2 a_3 a_4 a_5 a_6 a_7 a_8 a_9 a_10 a_11 a_12 a_13 i_3 i_4 i_5 i_6 i_7 i_8 i_9 i_10 a_14 a_15 a_16 a_17 a_18 a_19 a_20 a_21 a_22 a_23 h1) (cwV 1 hts (mm_gV mm_w600 mm_w601 mm_w602 mm_w2 mm_w603) rfl rfl rfl hd_X11_isText ⟨by rw [hRf]; exact Nat.le_of_ble_eq_true rfl, by rw [hRl]; exact Nat.le_of_ble_eq_true rfl⟩) (mm_preV hK hZ hS hA hP hD [0, 1, 2] rfl rfl 0 rfl rfl rfl) rfl rfl hl.1 rfl (lv_room (Nat.le_of_ble_eq_true rfl)) dX11_isReading_17 ⟨by rw [hRc]; exact Nat.le_of_ble_eq_true rfl, by rw [hRs]; exact Nat.le_of_ble_eq_true rfl⟩) hP hD hS hA [0, 1, 2] rfl (fun _ => rfl) ?_
          clear hP hD hS
          clear H locs
          intro v13 _u H locs hw hP hD hS
          rcases hw with ⟨rfl, w14⟩ | ⟨rfl, w15⟩
          · refine lv_if_eq (tgt := 27) hx hb dX11_isReading_20 (by decide) (fun c16 => ?_) (fun c16 => ?_)
            · refine lv_iconst (v := 0) hx hb dX11_isReading_27 (by decide) ?_
              subst hAe
              rw [hQ]
              exact W.zret (v := 0) hx hb hr rfl (fun t ht hW => ⟨⟨0, (), rfl, (Or.inl rfl), by rw [ht]; exact hP, hK.warm hW, hD⟩, hS.F ht⟩) hS.2.2 dX11_isReading_28
            · have q17 := mm_neL (lo := 1) (mm_ne c16) mm_k0 mm_k0 (by decide) (by decide)
              exact mm_no q17 (by decide)
          · refine lv_if_eq (tgt := 27) hx hb dX11_isReading_20 (by decide) (fun c18 => ?_) (fun c18 => ?_)
            · exact mm_eqN c18.symm mm_k0 mm_k1 (by decide)
            · refine lv_iconst (v := 1) hx hb dX11_isReading_23 (by decide) ?_
              refine lv_goto (tgt := 28) hx hb dX11_isReading_24 (by decide) ?_
              subst hAe
              rw [hQ]
              exact W.zret (v := 1) hx hb hr rfl (fun t ht hW => ⟨⟨1, (), rfl, (Or.inr ⟨rfl, w3, w9, w15⟩), by rw [ht]; exact hP, hK.warm hW, hD⟩, hS.F ht⟩) hS.2.2 dX11_isReading_28

set_option maxHeartbeats 4000000 in
set_option maxRecDepth 100000 in
theorem K372_X10_after (l : Launch) (G : va_G) (cy : Nat → ClassId) (sz : Nat) (a_0 : Nat) (i_0 : Int32) (i_1 : Int32) (a_1 : Nat) (a_2 : Nat) (i_2 : Int32) (i_3 : Int32) (i_4 : Int32) (i_5 : Int32) (i_6 : Int32) (i_7 : Int32) (i_8 : Int32) (i_9 : Int32) (a_3 : Nat) (a_4 : Nat) (a_5 : Nat) (a_6 : Nat) (a_7 : Nat) (a_8 : Nat) (a_9 : Nat) (a_10 : Nat) (a_11 : Nat) (a_12 : Nat) (f_0 : Nat → Int32) (f_1 : Nat → Int32) (h0 : mm_rg i_1 0 9) (h1 : mm_rg i_6 0 9) (h2 : mm_ar f_0 (-1) 4) (h3 : mm_ar f_1 0 99)  : mm_CI l yX10_after (mm_ws yX10_after cX10_after 3 (some .int)) ({ frames := 1, cells := 0, slots := 0, locals := 40 } : Room) G cy sz [(a_0, .inr (10, [.ref a_1, .ref a_2])), (a_1, .inr (0, [.int i_2, .int i_3, .int i_4, .int i_5, .int i_6, .int i_7, .int i_8, .int i_9, .ref a_3, .ref a_4, .ref a_5, .ref a_6, .ref a_7, .ref a_8, .ref a_9, .ref a_10, .ref a_11, .ref a_12])), (a_3, .inl (cy 1, 9, .inl f_0)), (a_4, .inl (cy 1, 9, .inl f_1))] [.ref a_0, .int i_0, .int i_1] (fun u : Unit => [(a_0, .inr (10, [.ref a_1, .ref a_2])), (a_1, .inr (0, [.int i_2, .int i_3, .int i_4, .int i_5, .int i_6, .int i_7, .int i_8, .int i_9, .ref a_3, .ref a_4, .ref a_5, .ref a_6, .ref a_7, .ref a_8, .ref a_9, .ref a_10, .ref a_11, .ref a_12])), (a_3, .inl (cy 1, 9, .inl f_0)), (a_4, .inl (cy 1, 9, .inl f_1))]) (fun (r : Int32) (u : Unit) => True) 0 0 := by
  refine mm_begin (lv := [(0, .ref a_0), (1, .int i_0), (2, .int i_1)]) (by decide) (Nat.le_of_ble_eq_true rfl) rfl ?_
  intro p e s m below meth c A ls R args Q H locs hRe hQ hAe hx hb hr hlocks hml hown hnm hts hsz hA hS hP hK hD hZ hl
  have hRf : R.frames = 1 := by rw [hRe]
  have hRl : R.locals = 40 := by rw [hRe]
  have hRc : R.cells = 0 := by rw [hRe]
  have hRs : R.slots = 0 := by rw [hRe]
  refine lv_iload_n hx hb dX10_after_0 rfl (lv_at hl 1 rfl) ?_
  refine lv_sipush (v := 20000) hx hb dX10_after_1 (by decide) ?_
  refine lv_icmp_lt (tgt := 9) hx hb dX10_after_4 (by decide) (fun c1 => ?_) (fun c1 => ?_)
  · have q2 := mm_ltL (h := 19999) (mm_lt c1) (mm_top i_0) mm_k20000 (by decide)
    refine lv_iload_n hx hb dX10_after_9 rfl (lv_at hl 1 rfl) ?_
    refine lv_sipush (v := 10000) hx hb dX10_after_10 (by decide) ?_
    refine lv_icmp_lt (tgt := 22) hx hb dX10_after_13 (by decide) (fun c3 => ?_) (fun c3 => ?_)
    · have q4 := mm_ltL (h := 9999) (mm_lt c3) q2 mm_k10000 (by decide)
      refine lv_iload_n hx hb dX10_after_22 rfl (lv_at hl 2 rfl) ?_
      refine lv_aload_n hx hb dX10_after_23 rfl (lv_at hl 0 rfl) ?_
      refine va_get (D := G) (ci := 10) (v := .ref a_1) (C := RX10) (T := TX10) (N := 2) hx hb hts (mm_i inlX10) hown hK.1 hP 0 rfl rfl 0 (by decide) (mm_h hts mm_w87) (fun _ h9 => h9) rfl dX10_after_24 ?_
      refine va_get (D := G) (ci := 0) (v := .int i_6) (C := RX0) (T := TX0) (N := 18) hx hb hts (mm_i inlX0) hown hK.1 hP 1 rfl rfl 4 (by decide) (mm_h hts mm_w729) (fun _ h9 => h9) rfl dX10_after_27 ?_
      refine lv_icmp_lt (tgt := 35) hx hb dX10_after_30 (by decide) (fun c5 => ?_) (fun c5 => ?_)
      · have q6 := mm_ltL (h := 8) (mm_lt c5) h0 h1 (by decide)
        have q7 := mm_ltR (lo := 1) (mm_lt c5) h0 h1 (by decide)
        refine lv_aload_n hx hb dX10_after_35 rfl (lv_at hl 0 rfl) ?_
        refine va_get (D := G) (ci := 10) (v := .ref a_1) (C := RX10) (T := TX10) (N := 2) hx hb hts (mm_i inlX10) hown hK.1 hP 0 rfl rfl 0 (by decide) (mm_h hts mm_w87) (fun _ h9 => h9) rfl dX10_after_36 ?_
        refine va_get (D := G) (ci := 0) (v := .ref a_3) (C := RX0) (T := TX0) (N := 18) hx hb hts (mm_i inlX0) hown hK.1 hP 1 rfl rfl 8 (by decide) (mm_h hts mm_w844) (fun _ h9 => h9) rfl dX10_after_39 ?_
        refine lv_iload_n hx hb dX10_after_42 rfl (lv_at hl 2 rfl) ?_
        refine va_iald hx hb hK.1 hP 2 1 rfl rfl (mm_in q6 (by decide)) dX10_after_43 ?_
        refine lv_topi (fun v8 ev8 => ?_)
        have rv8 : mm_rg v8 (-1) 4 := mm_eqv ev8 (h2 _)
        rcases mm_out v8 0 4 with c9 | c9 | c9
        · have q10 : mm_rg v8 (-1) (-1) := ⟨(rv8).1, by omega⟩
          refine lv_tableOut (tgt := 136) hx hb dX10_after_44 (Or.inl c9) (by decide) ?_
          refine lv_iload_n hx hb dX10_after_136 rfl (lv_at hl 1 rfl) ?_
          subst hAe
          rw [hQ]
          exact W.iret (v := i_0) hx hb hr (fun t ht hW => ⟨⟨i_0, (), rfl, trivial, by rw [ht]; exact hP, hK.warm hW, hD⟩, hS.F ht⟩) hS.2.2 dX10_after_137
        · exact absurd c9 (by have := (rv8).2; omega)
        · have c11 := mm_cases5 c9
          rcases c11 with rfl | rfl | rfl | rfl | rfl
          · refine lv_tableIn (tgt := 80) hx hb dX10_after_44 (by decide) (by decide) rfl (by decide) ?_
            refine lv_sipush (v := 9999) hx hb dX10_after_80 (by decide) ?_
            refine lv_iload_n hx hb dX10_after_83 rfl (lv_at hl 1 rfl) ?_
            refine lv_aload_n hx hb dX10_after_84 rfl (lv_at hl 0 rfl) ?_
            refine va_get (D := G) (ci := 10) (v := .ref a_1) (C := RX10) (T := TX10) (N := 2) hx hb hts (mm_i inlX10) hown hK.1 hP 0 rfl rfl 0 (by decide) (mm_h hts mm_w87) (fun _ h9 => h9) rfl dX10_after_85 ?_
            refine va_get (D := G) (ci := 0) (v := .ref a_4) (C := RX0) (T := TX0) (N := 18) hx hb hts (mm_i inlX0) hown hK.1 hP 1 rfl rfl 9 (by decide) (mm_h hts mm_w845) (fun _ h9 => h9) rfl dX10_after_88 ?_
            refine lv_iload_n hx hb dX10_after_91 rfl (lv_at hl 2 rfl) ?_
            refine va_iald hx hb hK.1 hP 3 1 rfl rfl (mm_in q6 (by decide)) dX10_after_92 ?_
            refine lv_topi (fun v12 ev12 => ?_)
            have rv12 : mm_rg v12 0 99 := mm_eqv ev12 (h3 _)
            refine lv_iadd hx hb dX10_after_93 ?_
            refine lv_topi (fun v13 ev13 => ?_)
            have rv13 : mm_rg v13 (-2147483648) 10098 := mm_add ev13 q4 rv12 (by decide) (by decide)
            have tv13 := mm_addE ev13 q4 rv12 (by decide)
            refine va_mmin hx hb (by rw [hml]; exact hl.1.symm) hown (mm_h hts mm_w846) (mm_h hts mm_w385) (mm_h hts mm_w346) (mm_h hts mm_w386) (by rw [hRf]; exact Nat.le_of_ble_eq_true rfl) (by rw [hRl]; exact Nat.le_of_ble_eq_true rfl) (by rw [hRc]; exact Nat.le_of_ble_eq_true rfl) (by rw [hRs]; exact Nat.le_of_ble_eq_true rfl) dX10_after_94 ?_
            refine lv_topi (fun v14 ev14 => ?_)
            have rv14 : mm_rg v14 (-2147483648) 9999 := mm_min ev14 mm_k9999 rv13 (by decide)
            subst hAe
            rw [hQ]
            exact W.iret (v := v14) hx hb hr (fun t ht hW => ⟨⟨v14, (), rfl, trivial, by rw [ht]; exact hP, hK.warm hW, hD⟩, hS.F ht⟩) hS.2.2 dX10_after_97
          · refine lv_tableIn (tgt := 98) hx hb dX10_after_44 (by decide) (by decide) rfl (by decide) ?_
            refine lv_iconst (v := 0) hx hb dX10_after_98 (by decide) ?_
            refine lv_iload_n hx hb dX10_after_99 rfl (lv_at hl 1 rfl) ?_
            refine lv_aload_n hx hb dX10_after_100 rfl (lv_at hl 0 rfl) ?_
            refine va_get (D := G) (ci := 10) (v := .ref a_1) (C := RX10) (T := TX10) (N := 2) hx hb hts (mm_i inlX10) hown hK.1 hP 0 rfl rfl 0 (by decide) (mm_h hts mm_w87) (fun _ h9 => h9) rfl dX10_after_101 ?_
            refine va_get (D := G) (ci := 0) (v := .ref a_4) (C := RX0) (T := TX0) (N := 18) hx hb hts (mm_i inlX0) hown hK.1 hP 1 rfl rfl 9 (by decide) (mm_h hts mm_w845) (fun _ h9 => h9) rfl dX10_after_104 ?_
            refine lv_iload_n hx hb dX10_after_107 rfl (lv_at hl 2 rfl) ?_
            refine va_iald hx hb hK.1 hP 3 1 rfl rfl (mm_in q6 (by decide)) dX10_after_108 ?_
            refine lv_topi (fun v15 ev15 => ?_)
            have rv15 : mm_rg v15 0 99 := mm_eqv ev15 (h3 _)
            refine lv_isub hx hb dX10_after_109 ?_
            refine lv_topi (fun v16 ev16 => ?_)
            refine va_mmax hx hb (by rw [hml]; exact hl.1.symm) hown (mm_h hts mm_w847) (mm_h hts mm_w345) (mm_h hts mm_w346) (mm_h hts mm_w347) (by rw [hRf]; exact Nat.le_of_ble_eq_true rfl) (by rw [hRl]; exact Nat.le_of_ble_eq_true rfl) (by rw [hRc]; exact Nat.le_of_ble_eq_true rfl) (by rw [hRs]; exact Nat.le_of_ble_eq_true rfl) dX10_after_110 ?_
            refine lv_topi (fun v17 ev17 => ?_)
            have rv17 : mm_rg v17 0 2147483647 := mm_max ev17 mm_k0 (mm_top v16) (by decide)
            subst hAe
            rw [hQ]
            exact W.iret (v := v17) hx hb hr (fun t ht hW => ⟨⟨v17, (), rfl, trivial, by rw [ht]; exact hP, hK.warm hW, hD⟩, hS.F ht⟩) hS.2.2 dX10_after_113
          · refine lv_tableIn (tgt := 114) hx hb dX10_after_44 (by decide) (by decide) rfl (by decide) ?_
            refine lv_sipush (v := 9999) hx hb dX10_after_114 (by decide) ?_
            refine lv_iconst (v := 2) hx hb dX10_after_117 (by decide) ?_
            refine lv_iload_n hx hb dX10_after_118 rfl (lv_at hl 1 rfl) ?_
            refine lv_imul hx hb dX10_after_119 ?_
            refine lv_topi (fun v18 ev18 => ?_)
            refine va_mmin hx hb (by rw [hml]; exact hl.1.symm) hown (mm_h hts mm_w846) (mm_h hts mm_w385) (mm_h hts mm_w346) (mm_h hts mm_w386) (by rw [hRf]; exact Nat.le_of_ble_eq_true rfl) (by rw [hRl]; exact Nat.le_of_ble_eq_true rfl) (by rw [hRc]; exact Nat.le_of_ble_eq_true rfl) (by rw [hRs]; exact Nat.le_of_ble_eq_true rfl) dX10_after_120 ?_
            refine lv_topi (fun v19 ev19 => ?_)
            have rv19 : mm_rg v19 (-2147483648) 9999 := mm_min ev19 mm_k9999 (mm_top v18) (by decide)
            subst hAe
            rw [hQ]
            exact W.iret (v := v19) hx hb hr (fun t ht hW => ⟨⟨v19, (), rfl, trivial, by rw [ht]; exact hP, hK.warm hW, hD⟩, hS.F ht⟩) hS.2.2 dX10_after_123
          · refine lv_tableIn (tgt := 124) hx hb dX10_after_44 (by decide) (by decide) rfl (by decide) ?_
            refine lv_iload_n hx hb dX10_after_124 rfl (lv_at hl 1 rfl) ?_
            refine lv_sipush (v := 20000) hx hb dX10_after_125 (by decide) ?_
            refine lv_iadd hx hb dX10_after_128 ?_
            refine lv_topi (fun v20 ev20 => ?_)
            have rv20 : mm_rg v20 (-2147463648) 29999 := mm_add ev20 q4 mm_k20000 (by decide) (by decide)
            have tv20 := mm_addEc ev20 q4 mm_k20000 (by decide) (k := 20000) (by decide)
            subst hAe
            rw [hQ]
            exact W.iret (v := v20) hx hb hr (fun t ht hW => ⟨⟨v20, (), rfl, trivial, by rw [ht]; exact hP, hK.warm hW, hD⟩, hS.F ht⟩) hS.2.2 dX10_after_129
          · refine lv_tableIn (tgt := 130) hx hb dX10_after_44 (by decide) (by decide) rfl (by decide) ?_
            refine lv_iload_n hx hb dX10_after_130 rfl (lv_at hl 1 rfl) ?_
            refine lv_sipush (v := 10000) hx hb dX10_after_131 (by decide) ?_
            refine lv_iadd hx hb dX10_after_134 ?_
            refine lv_topi (fun v21 ev21 => ?_)
            have rv21 : mm_rg v21 (-2147473648) 19999 := mm_add ev21 q4 mm_k10000 (by decide) (by decide)
            have tv21 := mm_addEc ev21 q4 mm_k10000 (by decide) (k := 10000) (by decide)
            subst hAe
            rw [hQ]
            exact W.iret (v := v21) hx hb hr (fun t ht hW => ⟨⟨v21, (), rfl, trivial, by rw [ht]; exact hP, hK.warm hW, hD⟩, hS.F ht⟩) hS.2.2 dX10_after_135
      · refine lv_iload_n hx hb dX10_after_33 rfl (lv_at hl 1 rfl) ?_
        subst hAe
        rw [hQ]
        exact W.iret (v := i_0) hx hb hr (fun t ht hW => ⟨⟨i_0, (), rfl, trivial, by rw [ht]; exact hP, hK.warm hW, hD⟩, hS.F ht⟩) hS.2.2 dX10_after_34
    · have q22 := mm_leR (mm_nlt c3) mm_k10000 q2
      refine lv_iload_n hx hb dX10_after_16 rfl (lv_at hl 1 rfl) ?_
      refine lv_sipush (v := 10000) hx hb dX10_after_17 (by decide) ?_
      refine lv_isub hx hb dX10_after_20 ?_
      refine lv_topi (fun v23 ev23 => ?_)
      have rv23 : mm_rg v23 0 9999 := mm_sub ev23 q22 mm_k10000 (by decide) (by decide)
      have tv23 := mm_subEc ev23 q22 mm_k10000 (by decide) (k := (-10000)) (by decide)
      subst hAe
      rw [hQ]
      exact W.iret (v := v23) hx hb hr (fun t ht hW => ⟨⟨v23, (), rfl, trivial, by rw [ht]; exact hP, hK.warm hW, hD⟩, hS.F ht⟩) hS.2.2 dX10_after_21
  · have q24 := mm_leR (mm_nlt c1) mm_k20000 (mm_top i_0)
    refine lv_iload_n hx hb dX10_after_7 rfl (lv_at hl 1 rfl) ?_
    subst hAe
    rw [hQ]
    exact W.iret (v := i_0) hx hb hr (fun t ht hW => ⟨⟨i_0, (), rfl, trivial, by rw [ht]; exact hP, hK.warm hW, hD⟩, hS.F ht⟩) hS.2.2 dX10_after_8

set_option maxHeartbeats 4000000 in
set_option maxRecDepth 100000 in
theorem K373_X10_leavingFrom (l : Launch) (G : va_G) (cy : Nat → ClassId) (sz : Nat) (a_0 : Nat) (i_0 : Int32) (i_1 : Int32) (i_2 : Int32) (i_3 : Int32) (a_1 : Nat) (a_2 : Nat) (i_4 : Int32) (i_5 : Int32) (i_6 : Int32) (i_7 : Int32) (i_8 : Int32) (i_9 : Int32) (i_10 : Int32) (i_11 : Int32) (a_3 : Nat) (a_4 : Nat) (a_5 : Nat) (a_6 : Nat) (a_7 : Nat) (a_8 : Nat) (a_9 : Nat) (a_10 : Nat) (a_11 : Nat) (a_12 : Nat) (f_0 : Nat → Int32) (f_1 : Nat → Int32) (f_2 : Nat → Int32) (f_3 : Nat → Int32) (f_4 : Nat → Int32) (a_13 : Nat) (a_14 : Nat) (a_15 : Nat) (a_16 : Nat) (a_17 : Nat) (i_12 : Int32) (i_13 : Int32) (i_14 : Int32) (f_5 : Nat → Int32) (a_18 : Nat) (a_19 : Nat) (i_15 : Int32) (i_16 : Int32) (i_17 : Int32) (f_6 : Nat → Int32) (a_20 : Nat) (a_21 : Nat) (i_18 : Int32) (i_19 : Int32) (i_20 : Int32) (f_7 : Nat → Int32) (h0 : mm_rg i_1 0 2) (h1 : mm_rg i_2 0 2147483647) (h2 : mm_rg i_3 0 5) (h3 : mm_rg i_8 0 9) (h4 : mm_ar f_0 (-1) 4) (h5 : mm_ar f_1 0 99) (h6 : mm_ar f_2 0 8) (h7 : mm_ar f_3 0 9) (h8 : mm_ar f_4 0 9) (h9 : mm_rg i_14 (-2147483648) 210) (h10 : mm_ar f_5 0 9) (h11 : mm_rg i_17 (-2147483648) 210) (h12 : mm_ar f_6 0 9) (h13 : mm_rg i_20 (-2147483648) 210) (h14 : mm_ar f_7 0 9)  : mm_CI l yX10_leavingFrom (mm_ws yX10_leavingFrom cX10_leavingFrom 7 (some .int)) ({ frames := 2, cells := 0, slots := 0, locals := 62 } : Room) G cy sz [(a_0, .inr (10, [.ref a_1, .ref a_2])), (a_1, .inr (0, [.int i_4, .int i_5, .int i_6, .int i_7, .int i_8, .int i_9, .int i_10, .int i_11, .ref a_3, .ref a_4, .ref a_5, .ref a_6, .ref a_7, .ref a_8, .ref a_9, .ref a_10, .ref a_11, .ref a_12])), (a_3, .inl (cy 1, 9, .inl f_0)), (a_4, .inl (cy 1, 9, .inl f_1)), (a_7, .inl (cy 1, 6, .inl f_2)), (a_8, .inl (cy 1, 48, .inl f_3)), (a_9, .inl (cy 1, 30, .inl f_4)), (a_2, .inl (cy 5, 3, .inr (.inr (.inr (.inr (va_up (va_up (va_up (fun _ => none) 0 (some a_13)) 1 (some a_14)) 2 (some a_15))))))), (a_13, .inr (1, [.ref a_16, .ref a_17, .int i_12, .int i_13, .int i_14])), (a_16, .inl (cy 1, 2100, .inl f_5)), (a_14, .inr (1, [.ref a_18, .ref a_19, .int i_15, .int i_16, .int i_17])), (a_18, .inl (cy 1, 2100, .inl f_6)), (a_15, .inr (1, [.ref a_20, .ref a_21, .int i_18, .int i_19, .int i_20])), (a_20, .inl (cy 1, 2100, .inl f_7))] [.ref a_0, .int i_0, .int i_1, .int i_2, .int i_3] (fun u : Unit => [(a_0, .inr (10, [.ref a_1, .ref a_2])), (a_1, .inr (0, [.int i_4, .int i_5, .int i_6, .int i_7, .int i_8, .int i_9, .int i_10, .int i_11, .ref a_3, .ref a_4, .ref a_5, .ref a_6, .ref a_7, .ref a_8, .ref a_9, .ref a_10, .ref a_11, .ref a_12])), (a_3, .inl (cy 1, 9, .inl f_0)), (a_4, .inl (cy 1, 9, .inl f_1)), (a_7, .inl (cy 1, 6, .inl f_2)), (a_8, .inl (cy 1, 48, .inl f_3)), (a_9, .inl (cy 1, 30, .inl f_4)), (a_2, .inl (cy 5, 3, .inr (.inr (.inr (.inr (va_up (va_up (va_up (fun _ => none) 0 (some a_13)) 1 (some a_14)) 2 (some a_15))))))), (a_13, .inr (1, [.ref a_16, .ref a_17, .int i_12, .int i_13, .int i_14])), (a_16, .inl (cy 1, 2100, .inl f_5)), (a_14, .inr (1, [.ref a_18, .ref a_19, .int i_15, .int i_16, .int i_17])), (a_18, .inl (cy 1, 2100, .inl f_6)), (a_15, .inr (1, [.ref a_20, .ref a_21, .int i_18, .int i_19, .int i_20])), (a_20, .inl (cy 1, 2100, .inl f_7))]) (fun (r : Int32) (u : Unit) => True) 0 0 := by
  refine mm_begin (lv := [(0, .ref a_0), (1, .int i_0), (2, .int i_1), (3, .int i_2), (4, .int i_3)]) (by decide) (Nat.le_of_ble_eq_true rfl) rfl ?_
  intro p e s m below meth c A ls R args Q H locs hRe hQ hAe hx hb hr hlocks hml hown hnm hts hsz hA hS hP hK hD hZ hl
  have hRf : R.frames = 2 := by rw [hRe]
  have hRl : R.locals = 62 := by rw [hRe]
  have hRc : R.cells = 0 := by rw [hRe]
  have hRs : R.slots = 0 := by rw [hRe]
  refine lv_iload_n hx hb dX10_leavingFrom_0 rfl (lv_at hl 1 rfl) ?_
  refine lv_istore (lv' := [(5, .int i_0), (0, .ref a_0), (1, .int i_0), (2, .int i_1), (3, .int i_2), (4, .int i_3)]) hx hb dX10_leavingFrom_1 hl (by decide) rfl ?_
  clear hl
  clear ls
  intro ls hl
  refine lv_iconst (v := 0) hx hb dX10_leavingFrom_3 (by decide) ?_
  refine lv_istore (lv' := [(6, .int 0), (5, .int i_0), (0, .ref a_0), (1, .int i_0), (2, .int i_1), (3, .int i_2), (4, .int i_3)]) hx hb dX10_leavingFrom_4 hl (by decide) rfl ?_
  clear hl
  clear ls
  intro ls hl
  have L6_151 : ∀ (n : Nat) (x6_6_150 : Int32) (x6_5_151 : Int32), mm_rg x6_6_150 0 8 → (8 - x6_6_150.toInt).toNat < n → ∀ (H : Heap) (locs : List Loc), va_P G vwCl [(a_0, .inr (10, [.ref a_1, .ref a_2])), (a_1, .inr (0, [.int i_4, .int i_5, .int i_6, .int i_7, .int i_8, .int i_9, .int i_10, .int i_11, .ref a_3, .ref a_4, .ref a_5, .ref a_6, .ref a_7, .ref a_8, .ref a_9, .ref a_10, .ref a_11, .ref a_12])), (a_3, .inl (cy 1, 9, .inl f_0)), (a_4, .inl (cy 1, 9, .inl f_1)), (a_7, .inl (cy 1, 6, .inl f_2)), (a_8, .inl (cy 1, 48, .inl f_3)), (a_9, .inl (cy 1, 30, .inl f_4)), (a_2, .inl (cy 5, 3, .inr (.inr (.inr (.inr (va_up (va_up (va_up (fun _ => none) 0 (some a_13)) 1 (some a_14)) 2 (some a_15))))))), (a_13, .inr (1, [.ref a_16, .ref a_17, .int i_12, .int i_13, .int i_14])), (a_16, .inl (cy 1, 2100, .inl f_5)), (a_14, .inr (1, [.ref a_18, .ref a_19, .int i_15, .int i_16, .int i_17])), (a_18, .inl (cy 1, 2100, .inl f_6)), (a_15, .inr (1, [.ref a_20, .ref a_21, .int i_18, .int i_19, .int i_20])), (a_20, .inl (cy 1, 2100, .inl f_7))] H → va_D A [(a_0, .inr (10, [.ref a_1, .ref a_2])), (a_1, .inr (0, [.int i_4, .int i_5, .int i_6, .int i_7, .int i_8, .int i_9, .int i_10, .int i_11, .ref a_3, .ref a_4, .ref a_5, .ref a_6, .ref a_7, .ref a_8, .ref a_9, .ref a_10, .ref a_11, .ref a_12])), (a_3, .inl (cy 1, 9, .inl f_0)), (a_4, .inl (cy 1, 9, .inl f_1)), (a_7, .inl (cy 1, 6, .inl f_2)), (a_8, .inl (cy 1, 48, .inl f_3)), (a_9, .inl (cy 1, 30, .inl f_4)), (a_2, .inl (cy 5, 3, .inr (.inr (.inr (.inr (va_up (va_up (va_up (fun _ => none) 0 (some a_13)) 1 (some a_14)) 2 (some a_15))))))), (a_13, .inr (1, [.ref a_16, .ref a_17, .int i_12, .int i_13, .int i_14])), (a_16, .inl (cy 1, 2100, .inl f_5)), (a_14, .inr (1, [.ref a_18, .ref a_19, .int i_15, .int i_16, .int i_17])), (a_18, .inl (cy 1, 2100, .inl f_6)), (a_15, .inr (1, [.ref a_20, .ref a_21, .int i_18, .int i_19, .int i_20])), (a_20, .inl (cy 1, 2100, .inl f_7))] → va_S A s.heap H locs → ∀ (ls : Array Slot), lv_has ls 7 [(6, .int x6_6_150), (5, .int x6_5_151), (0, .ref a_0), (1, .int i_0), (2, .int i_1), (3, .int i_2), (4, .int i_3)] → W p l e R s m args below meth c H locs 0 0 Q (F0 m 6 ls []) := by
    intro n
    induction n with
    | zero => intro x6_6_150 x6_5_151 rx6_6_150 hm; exact absurd hm (Nat.not_lt_zero _)
    | succ n ih6 =>
      intro x6_6_150 x6_5_151 rx6_6_150 hm6 H locs hP hD hS ls hl
      refine lv_iload hx hb dX10_leavingFrom_6 (lv_at hl 0 rfl) ?_
      refine lv_aload_n hx hb dX10_leavingFrom_8 rfl (lv_at hl 2 rfl) ?_
      refine va_get (D := G) (ci := 10) (v := .ref a_1) (C := RX10) (T := TX10) (N := 2) hx hb hts (mm_i inlX10) hown hK.1 hP 0 rfl rfl 0 (by decide) (mm_h hts mm_w87) (fun _ h9 => h9) rfl dX10_leavingFrom_9 ?_
      refine va_get (D := G) (ci := 0) (v := .ref a_7) (C := RX0) (T := TX0) (N := 18) hx hb hts (mm_i inlX0) hown hK.1 hP 1 rfl rfl 12 (by decide) (mm_h hts mm_w838) (fun _ h9 => h9) rfl dX10_leavingFrom_12 ?_
      refine lv_iload hx hb dX10_leavingFrom_15 (lv_at hl 6 rfl) ?_
      refine va_iald hx hb hK.1 hP 4 1 rfl rfl (mm_in h2 (by decide)) dX10_leavingFrom_17 ?_
      refine lv_topi (fun v153 ev153 => ?_)
      have rv153 : mm_rg v153 0 8 := mm_eqv ev153 (h6 _)
      refine lv_icmp_ge (tgt := 60) hx hb dX10_leavingFrom_18 (by decide) (fun c154 => ?_) (fun c154 => ?_)
      · refine lv_iload hx hb dX10_leavingFrom_60 (lv_at hl 1 rfl) ?_
        refine lv_sipush (v := 10000) hx hb dX10_leavingFrom_62 (by decide) ?_
        refine lv_irem hx hb dX10_leavingFrom_65 (mm_nz mm_k10000 (by decide)) ?_
        refine lv_topi (fun v155 ev155 => ?_)
        subst hAe
        rw [hQ]
        exact W.iret (v := v155) hx hb hr (fun t ht hW => ⟨⟨v155, (), rfl, trivial, by rw [ht]; exact hP, hK.warm hW, hD⟩, hS.F ht⟩) hS.2.2 dX10_leavingFrom_66
      · have q156 := mm_ltL (h := 7) (mm_nle c154) rx6_6_150 rv153 (by decide)
        have q157 := mm_ltR (lo := 1) (mm_nle c154) rx6_6_150 rv153 (by decide)
        refine lv_iload hx hb dX10_leavingFrom_21 (lv_at hl 1 rfl) ?_
        refine lv_sipush (v := 20000) hx hb dX10_leavingFrom_23 (by decide) ?_
        refine lv_icmp_ge (tgt := 60) hx hb dX10_leavingFrom_26 (by decide) (fun c158 => ?_) (fun c158 => ?_)
        · have q159 := mm_leR (mm_le c158) mm_k20000 (mm_top x6_5_151)
          refine lv_iload hx hb dX10_leavingFrom_60 (lv_at hl 1 rfl) ?_
          refine lv_sipush (v := 10000) hx hb dX10_leavingFrom_62 (by decide) ?_
          refine lv_irem hx hb dX10_leavingFrom_65 (mm_nz mm_k10000 (by decide)) ?_
          refine lv_topi (fun v160 ev160 => ?_)
          have rv160 : mm_rg v160 0 9999 := mm_rem ev160 q159 mm_k10000 (by decide) (by decide)
          subst hAe
          rw [hQ]
          exact W.iret (v := v160) hx hb hr (fun t ht hW => ⟨⟨v160, (), rfl, trivial, by rw [ht]; exact hP, hK.warm hW, hD⟩, hS.F ht⟩) hS.2.2 dX10_leavingFrom_66
        · have q161 := mm_ltL (h := 19999) (mm_nle c158) (mm_top x6_5_151) mm_k20000 (by decide)
          refine lv_aload_n hx hb dX10_leavingFrom_29 rfl (lv_at hl 2 rfl) ?_
          refine lv_iload hx hb dX10_leavingFrom_30 (lv_at hl 1 rfl) ?_
          refine lv_aload_n hx hb dX10_leavingFrom_32 rfl (lv_at hl 2 rfl) ?_
          refine lv_iload_n hx hb dX10_leavingFrom_33 rfl (lv_at hl 4 rfl) ?_
          refine lv_iload_n hx hb dX10_leavingFrom_34 rfl (lv_at hl 5 rfl) ?_
          refine lv_aload_n hx hb dX10_leavingFrom_35 rfl (lv_at hl 2 rfl) ?_
          refine va_get (D := G) (ci := 10) (v := .ref a_1) (C := RX10) (T := TX10) (N := 2) hx hb hts (mm_i inlX10) hown hK.1 hP 0 rfl rfl 0 (by decide) (mm_h hts mm_w87) (fun _ h9 => h9) rfl dX10_leavingFrom_36 ?_
          refine lv_iload hx hb dX10_leavingFrom_39 (lv_at hl 6 rfl) ?_
          refine lv_iload hx hb dX10_leavingFrom_41 (lv_at hl 0 rfl) ?_
          refine mm_finir (va_runV (As := [.int i_3, .int x6_6_150]) (rest := [.int i_2, .int i_1, .ref a_0, .int x6_5_151, .ref a_0]) ⟨hx, hb, hml, hown, hts⟩ (K348_X0_wordAt l G cy H.size a_1 i_3 x6_6_150 i_4 i_5 i_6 i_7 i_8 i_9 i_10 i_11 a_3 a_4 a_5 a_6 a_7 a_8 a_9 a_10 a_11 a_12 f_3 h2 q156 h7) (cwV 2 hts (mm_gV mm_w839 mm_w606 mm_w607 mm_w28 mm_w608) rfl rfl rfl hd_X0_wordAt ⟨by rw [hRf]; exact Nat.le_of_ble_eq_true rfl, by rw [hRl]; exact Nat.le_of_ble_eq_true rfl⟩) (mm_preV hK hZ hS hA hP hD [1, 5] rfl rfl 1 rfl rfl rfl) rfl rfl hl.1 rfl (lv_room (Nat.le_of_ble_eq_true rfl)) dX10_leavingFrom_43 ⟨by rw [hRc]; exact Nat.le_of_ble_eq_true rfl, by rw [hRs]; exact Nat.le_of_ble_eq_true rfl⟩) hP hD hS hA [1, 5] rfl (fun _ => rfl) ?_
          clear hP hD hS
          clear H locs
          intro v162 _u H locs hw hP hD hS
          have w163 := hw
          refine mm_finir (va_runV (As := [.int i_1, .int i_2, .int v162]) (rest := [.int x6_5_151, .ref a_0]) ⟨hx, hb, hml, hown, hts⟩ (K355_X10_meaning l G cy H.size a_0 i_1 i_2 v162 a_1 a_2 i_4 i_5 i_6 i_7 i_8 i_9 i_10 i_11 a_3 a_4 a_5 a_6 a_7 a_8 a_9 a_10 a_11 a_12 f_4 a_13 a_14 a_15 a_16 a_17 i_12 i_13 i_14 f_5 a_18 a_19 i_15 i_16 i_17 f_6 a_20 a_21 i_18 i_19 i_20 f_7 h0 h1 w163 h8 h9 h10 h11 h12 h13 h14) (cwV 3 hts (mm_gV mm_w730 mm_w666 mm_w667 mm_w23 mm_w668) rfl rfl rfl hd_X10_meaning ⟨by rw [hRf]; exact Nat.le_of_ble_eq_true rfl, by rw [hRl]; exact Nat.le_of_ble_eq_true rfl⟩) (mm_preV hK hZ hS hA hP hD [0, 1, 6, 7, 8, 9, 10, 11, 12, 13] rfl rfl 0 rfl rfl rfl) rfl rfl hl.1 rfl (lv_room (Nat.le_of_ble_eq_true rfl)) dX10_leavingFrom_46 ⟨by rw [hRc]; exact Nat.le_of_ble_eq_true rfl, by rw [hRs]; exact Nat.le_of_ble_eq_true rfl⟩) hP hD hS hA [0, 1, 6, 7, 8, 9, 10, 11, 12, 13] rfl (fun _ => rfl) ?_
          clear hP hD hS
          clear H locs
          intro v164 _u H locs hw hP hD hS
          have w165 := hw
          refine mm_finir (va_runV (As := [.int x6_5_151, .int v164]) (rest := []) ⟨hx, hb, hml, hown, hts⟩ (K372_X10_after l G cy H.size a_0 x6_5_151 v164 a_1 a_2 i_4 i_5 i_6 i_7 i_8 i_9 i_10 i_11 a_3 a_4 a_5 a_6 a_7 a_8 a_9 a_10 a_11 a_12 f_0 f_1 w165 h3 h4 h5) (cwV 2 hts (mm_gV mm_w840 mm_w841 mm_w842 mm_w23 mm_w843) rfl rfl rfl hd_X10_after ⟨by rw [hRf]; exact Nat.le_of_ble_eq_true rfl, by rw [hRl]; exact Nat.le_of_ble_eq_true rfl⟩) (mm_preV hK hZ hS hA hP hD [0, 1, 2, 3] rfl rfl 0 rfl rfl rfl) rfl rfl hl.1 rfl (lv_room (Nat.le_of_ble_eq_true rfl)) dX10_leavingFrom_49 ⟨by rw [hRc]; exact Nat.le_of_ble_eq_true rfl, by rw [hRs]; exact Nat.le_of_ble_eq_true rfl⟩) hP hD hS hA [0, 1, 2, 3] rfl (fun _ => rfl) ?_
          clear hP hD hS
          clear H locs
          intro v166 _u H locs hw hP hD hS
          refine lv_istore (lv' := [(5, .int v166), (6, .int x6_6_150), (0, .ref a_0), (1, .int i_0), (2, .int i_1), (3, .int i_2), (4, .int i_3)]) hx hb dX10_leavingFrom_52 hl (by decide) rfl ?_
          clear hl
          clear ls
          intro ls hl
          obtain ⟨v167, ev167⟩ : ∃ y : Int32, y = x6_6_150 + 1 := ⟨_, rfl⟩
          refine lv_iinc (v := v167) (lv' := [(6, .int v167), (5, .int v166), (0, .ref a_0), (1, .int i_0), (2, .int i_1), (3, .int i_2), (4, .int i_3)]) hx hb dX10_leavingFrom_54 hl (k := 1) rfl (by rw [ev167]; rfl) (by decide) rfl ?_
          clear hl
          clear ls
          intro ls hl
          have rv167 : mm_rg v167 1 8 := mm_add ev167 q156 mm_k1 (by decide) (by decide)
          have tv167 := mm_addEc ev167 q156 mm_k1 (by decide) (k := 1) (by decide)
          refine lv_goto (tgt := 6) hx hb dX10_leavingFrom_57 (by decide) ?_
          exact ih6 v167 v166 (mm_wk rv167 (by decide)) (mm_mu hm6 tv167 (by decide) (rv167).2 (by decide)) H locs hP hD hS ls (lv_sub hl [0, 1, 2, 3, 4, 5, 6] rfl)
  exact L6_151 _ 0 i_0 (mm_wk mm_k0 (by decide)) (Nat.lt_succ_self _) H locs hP hD hS ls (lv_sub hl [0, 1, 2, 3, 4, 5, 6] rfl)

set_option maxHeartbeats 4000000 in
set_option maxRecDepth 100000 in
theorem K374_X10_leaving (l : Launch) (G : va_G) (cy : Nat → ClassId) (sz : Nat) (a_0 : Nat) (i_0 : Int32) (i_1 : Int32) (i_2 : Int32) (a_1 : Nat) (a_2 : Nat) (i_3 : Int32) (i_4 : Int32) (i_5 : Int32) (i_6 : Int32) (i_7 : Int32) (i_8 : Int32) (i_9 : Int32) (i_10 : Int32) (a_3 : Nat) (a_4 : Nat) (a_5 : Nat) (a_6 : Nat) (a_7 : Nat) (a_8 : Nat) (a_9 : Nat) (a_10 : Nat) (a_11 : Nat) (a_12 : Nat) (f_0 : Nat → Int32) (f_1 : Nat → Int32) (f_2 : Nat → Int32) (f_3 : Nat → Int32) (f_4 : Nat → Int32) (a_13 : Nat) (a_14 : Nat) (a_15 : Nat) (a_16 : Nat) (a_17 : Nat) (i_11 : Int32) (i_12 : Int32) (i_13 : Int32) (f_5 : Nat → Int32) (a_18 : Nat) (a_19 : Nat) (i_14 : Int32) (i_15 : Int32) (i_16 : Int32) (f_6 : Nat → Int32) (a_20 : Nat) (a_21 : Nat) (i_17 : Int32) (i_18 : Int32) (i_19 : Int32) (f_7 : Nat → Int32) (h0 : mm_rg i_0 0 2) (h1 : mm_rg i_1 0 2147483647) (h2 : mm_rg i_2 0 5) (h3 : mm_rg i_6 0 99) (h4 : mm_rg i_7 0 9) (h5 : mm_ar f_0 (-1) 4) (h6 : mm_ar f_1 0 99) (h7 : mm_ar f_2 0 8) (h8 : mm_ar f_3 0 9) (h9 : mm_ar f_4 0 9) (h10 : mm_rg i_13 (-2147483648) 210) (h11 : mm_ar f_5 0 9) (h12 : mm_rg i_16 (-2147483648) 210) (h13 : mm_ar f_6 0 9) (h14 : mm_rg i_19 (-2147483648) 210) (h15 : mm_ar f_7 0 9)  : mm_CI l yX10_leaving (mm_ws yX10_leaving cX10_leaving 4 (some .int)) ({ frames := 3, cells := 0, slots := 0, locals := 88 } : Room) G cy sz [(a_0, .inr (10, [.ref a_1, .ref a_2])), (a_1, .inr (0, [.int i_3, .int i_4, .int i_5, .int i_6, .int i_7, .int i_8, .int i_9, .int i_10, .ref a_3, .ref a_4, .ref a_5, .ref a_6, .ref a_7, .ref a_8, .ref a_9, .ref a_10, .ref a_11, .ref a_12])), (a_3, .inl (cy 1, 9, .inl f_0)), (a_4, .inl (cy 1, 9, .inl f_1)), (a_7, .inl (cy 1, 6, .inl f_2)), (a_8, .inl (cy 1, 48, .inl f_3)), (a_9, .inl (cy 1, 30, .inl f_4)), (a_2, .inl (cy 5, 3, .inr (.inr (.inr (.inr (va_up (va_up (va_up (fun _ => none) 0 (some a_13)) 1 (some a_14)) 2 (some a_15))))))), (a_13, .inr (1, [.ref a_16, .ref a_17, .int i_11, .int i_12, .int i_13])), (a_16, .inl (cy 1, 2100, .inl f_5)), (a_14, .inr (1, [.ref a_18, .ref a_19, .int i_14, .int i_15, .int i_16])), (a_18, .inl (cy 1, 2100, .inl f_6)), (a_15, .inr (1, [.ref a_20, .ref a_21, .int i_17, .int i_18, .int i_19])), (a_20, .inl (cy 1, 2100, .inl f_7))] [.ref a_0, .int i_0, .int i_1, .int i_2] (fun u : Unit => [(a_0, .inr (10, [.ref a_1, .ref a_2])), (a_1, .inr (0, [.int i_3, .int i_4, .int i_5, .int i_6, .int i_7, .int i_8, .int i_9, .int i_10, .ref a_3, .ref a_4, .ref a_5, .ref a_6, .ref a_7, .ref a_8, .ref a_9, .ref a_10, .ref a_11, .ref a_12])), (a_3, .inl (cy 1, 9, .inl f_0)), (a_4, .inl (cy 1, 9, .inl f_1)), (a_7, .inl (cy 1, 6, .inl f_2)), (a_8, .inl (cy 1, 48, .inl f_3)), (a_9, .inl (cy 1, 30, .inl f_4)), (a_2, .inl (cy 5, 3, .inr (.inr (.inr (.inr (va_up (va_up (va_up (fun _ => none) 0 (some a_13)) 1 (some a_14)) 2 (some a_15))))))), (a_13, .inr (1, [.ref a_16, .ref a_17, .int i_11, .int i_12, .int i_13])), (a_16, .inl (cy 1, 2100, .inl f_5)), (a_14, .inr (1, [.ref a_18, .ref a_19, .int i_14, .int i_15, .int i_16])), (a_18, .inl (cy 1, 2100, .inl f_6)), (a_15, .inr (1, [.ref a_20, .ref a_21, .int i_17, .int i_18, .int i_19])), (a_20, .inl (cy 1, 2100, .inl f_7))]) (fun (r : Int32) (u : Unit) => True) 0 0 := by
  refine mm_begin (lv := [(0, .ref a_0), (1, .int i_0), (2, .int i_1), (3, .int i_2)]) (by decide) (Nat.le_of_ble_eq_true rfl) rfl ?_
  intro p e s m below meth c A ls R args Q H locs hRe hQ hAe hx hb hr hlocks hml hown hnm hts hsz hA hS hP hK hD hZ hl
  have hRf : R.frames = 3 := by rw [hRe]
  have hRl : R.locals = 88 := by rw [hRe]
  have hRc : R.cells = 0 := by rw [hRe]
  have hRs : R.slots = 0 := by rw [hRe]
  refine lv_aload_n hx hb dX10_leaving_0 rfl (lv_at hl 0 rfl) ?_
  refine lv_aload_n hx hb dX10_leaving_1 rfl (lv_at hl 0 rfl) ?_
  refine va_get (D := G) (ci := 10) (v := .ref a_1) (C := RX10) (T := TX10) (N := 2) hx hb hts (mm_i inlX10) hown hK.1 hP 0 rfl rfl 0 (by decide) (mm_h hts mm_w87) (fun _ h9 => h9) rfl dX10_leaving_2 ?_
  refine va_get (D := G) (ci := 0) (v := .int i_6) (C := RX0) (T := TX0) (N := 18) hx hb hts (mm_i inlX0) hown hK.1 hP 1 rfl rfl 3 (by decide) (mm_h hts mm_w833) (fun _ h9 => h9) rfl dX10_leaving_5 ?_
  refine lv_iload_n hx hb dX10_leaving_8 rfl (lv_at hl 1 rfl) ?_
  refine lv_iload_n hx hb dX10_leaving_9 rfl (lv_at hl 2 rfl) ?_
  refine lv_iload_n hx hb dX10_leaving_10 rfl (lv_at hl 3 rfl) ?_
  refine mm_finir (va_runV (As := [.int i_6, .int i_0, .int i_1, .int i_2]) (rest := []) ⟨hx, hb, hml, hown, hts⟩ (K373_X10_leavingFrom l G cy H.size a_0 i_6 i_0 i_1 i_2 a_1 a_2 i_3 i_4 i_5 i_6 i_7 i_8 i_9 i_10 a_3 a_4 a_5 a_6 a_7 a_8 a_9 a_10 a_11 a_12 f_0 f_1 f_2 f_3 f_4 a_13 a_14 a_15 a_16 a_17 i_11 i_12 i_13 f_5 a_18 a_19 i_14 i_15 i_16 f_6 a_20 a_21 i_17 i_18 i_19 f_7 h0 h1 h2 h4 h5 h6 h7 h8 h9 h10 h11 h12 h13 h14 h15) (cwV 4 hts (mm_gV mm_w834 mm_w835 mm_w836 mm_w23 mm_w837) rfl rfl rfl hd_X10_leavingFrom ⟨by rw [hRf]; exact Nat.le_of_ble_eq_true rfl, by rw [hRl]; exact Nat.le_of_ble_eq_true rfl⟩) (mm_preV hK hZ hS hA hP hD [0, 1, 2, 3, 4, 5, 6, 7, 8, 9, 10, 11, 12, 13] rfl rfl 0 rfl rfl rfl) rfl rfl hl.1 rfl (lv_room (Nat.le_of_ble_eq_true rfl)) dX10_leaving_11 ⟨by rw [hRc]; exact Nat.le_of_ble_eq_true rfl, by rw [hRs]; exact Nat.le_of_ble_eq_true rfl⟩) hP hD hS hA [0, 1, 2, 3, 4, 5, 6, 7, 8, 9, 10, 11, 12, 13] rfl (fun _ => rfl) ?_
  clear hP hD hS
  clear H locs
  intro v1 _u H locs hw hP hD hS
  subst hAe
  rw [hQ]
  exact W.iret (v := v1) hx hb hr (fun t ht hW => ⟨⟨v1, (), rfl, trivial, by rw [ht]; exact hP, hK.warm hW, hD⟩, hS.F ht⟩) hS.2.2 dX10_leaving_14

set_option maxHeartbeats 4000000 in
set_option maxRecDepth 100000 in
theorem K375_X11_read (l : Launch) (G : va_G) (cy : Nat → ClassId) (sz : Nat) (a_0 : Nat) (i_0 : Int32) (i_1 : Int32) (i_2 : Int32) (a_1 : Nat) (a_2 : Nat) (a_3 : Nat) (a_4 : Nat) (a_5 : Nat) (a_6 : Nat) (a_7 : Nat) (a_8 : Nat) (a_9 : Nat) (a_10 : Nat) (a_11 : Nat) (a_12 : Nat) (a_13 : Nat) (i_3 : Int32) (i_4 : Int32) (i_5 : Int32) (i_6 : Int32) (i_7 : Int32) (i_8 : Int32) (i_9 : Int32) (i_10 : Int32) (a_14 : Nat) (a_15 : Nat) (a_16 : Nat) (a_17 : Nat) (a_18 : Nat) (a_19 : Nat) (a_20 : Nat) (a_21 : Nat) (a_22 : Nat) (a_23 : Nat) (f_0 : Nat → Int32) (f_1 : Nat → Int32) (f_2 : Nat → Int32) (f_3 : Nat → Int32) (f_4 : Nat → Int32) (a_24 : Nat) (a_25 : Nat) (a_26 : Nat) (a_27 : Nat) (a_28 : Nat) (i_11 : Int32) (i_12 : Int32) (i_13 : Int32) (f_5 : Nat → Int32) (a_29 : Nat) (a_30 : Nat) (i_14 : Int32) (i_15 : Int32) (i_16 : Int32) (f_6 : Nat → Int32) (a_31 : Nat) (a_32 : Nat) (i_17 : Int32) (i_18 : Int32) (i_19 : Int32) (f_7 : Nat → Int32) (h0 : mm_rg i_6 0 99) (h1 : mm_rg i_7 0 9) (h2 : mm_rg i_8 0 3) (h3 : mm_rg i_9 0 6) (h4 : mm_ar f_0 (-1) 4) (h5 : mm_ar f_1 0 99) (h6 : mm_ar f_2 0 8) (h7 : mm_ar f_3 0 9) (h8 : mm_ar f_4 0 9) (h9 : mm_rg i_13 (-2147483648) 210) (h10 : mm_ar f_5 0 9) (h11 : mm_rg i_16 (-2147483648) 210) (h12 : mm_ar f_6 0 9) (h13 : mm_rg i_19 (-2147483648) 210) (h14 : mm_ar f_7 0 9)  : mm_CI l yX11_read (mm_ws yX11_read cX11_read 4 (some .int)) ({ frames := 4, cells := 0, slots := 0, locals := 111 } : Room) G cy sz [(a_0, .inr (11, [.ref a_1, .ref a_2, .ref a_3, .ref a_4, .ref a_5, .ref a_6, .ref a_7, .ref a_8, .ref a_9, .ref a_10, .ref a_11])), (a_3, .inr (10, [.ref a_12, .ref a_13])), (a_12, .inr (0, [.int i_3, .int i_4, .int i_5, .int i_6, .int i_7, .int i_8, .int i_9, .int i_10, .ref a_14, .ref a_15, .ref a_16, .ref a_17, .ref a_18, .ref a_19, .ref a_20, .ref a_21, .ref a_22, .ref a_23])), (a_14, .inl (cy 1, 9, .inl f_0)), (a_15, .inl (cy 1, 9, .inl f_1)), (a_18, .inl (cy 1, 6, .inl f_2)), (a_19, .inl (cy 1, 48, .inl f_3)), (a_20, .inl (cy 1, 30, .inl f_4)), (a_13, .inl (cy 5, 3, .inr (.inr (.inr (.inr (va_up (va_up (va_up (fun _ => none) 0 (some a_24)) 1 (some a_25)) 2 (some a_26))))))), (a_24, .inr (1, [.ref a_27, .ref a_28, .int i_11, .int i_12, .int i_13])), (a_27, .inl (cy 1, 2100, .inl f_5)), (a_25, .inr (1, [.ref a_29, .ref a_30, .int i_14, .int i_15, .int i_16])), (a_29, .inl (cy 1, 2100, .inl f_6)), (a_26, .inr (1, [.ref a_31, .ref a_32, .int i_17, .int i_18, .int i_19])), (a_31, .inl (cy 1, 2100, .inl f_7))] [.ref a_0, .int i_0, .int i_1, .int i_2] (fun u : Unit => [(a_0, .inr (11, [.ref a_1, .ref a_2, .ref a_3, .ref a_4, .ref a_5, .ref a_6, .ref a_7, .ref a_8, .ref a_9, .ref a_10, .ref a_11])), (a_3, .inr (10, [.ref a_12, .ref a_13])), (a_12, .inr (0, [.int i_3, .int i_4, .int i_5, .int i_6, .int i_7, .int i_8, .int i_9, .int i_10, .ref a_14, .ref a_15, .ref a_16, .ref a_17, .ref a_18, .ref a_19, .ref a_20, .ref a_21, .ref a_22, .ref a_23])), (a_14, .inl (cy 1, 9, .inl f_0)), (a_15, .inl (cy 1, 9, .inl f_1)), (a_18, .inl (cy 1, 6, .inl f_2)), (a_19, .inl (cy 1, 48, .inl f_3)), (a_20, .inl (cy 1, 30, .inl f_4)), (a_13, .inl (cy 5, 3, .inr (.inr (.inr (.inr (va_up (va_up (va_up (fun _ => none) 0 (some a_24)) 1 (some a_25)) 2 (some a_26))))))), (a_24, .inr (1, [.ref a_27, .ref a_28, .int i_11, .int i_12, .int i_13])), (a_27, .inl (cy 1, 2100, .inl f_5)), (a_25, .inr (1, [.ref a_29, .ref a_30, .int i_14, .int i_15, .int i_16])), (a_29, .inl (cy 1, 2100, .inl f_6)), (a_26, .inr (1, [.ref a_31, .ref a_32, .int i_17, .int i_18, .int i_19])), (a_31, .inl (cy 1, 2100, .inl f_7))]) (fun (r : Int32) (u : Unit) => True) 0 0 := by
  refine mm_begin (lv := [(0, .ref a_0), (1, .int i_0), (2, .int i_1), (3, .int i_2)]) (by decide) (Nat.le_of_ble_eq_true rfl) rfl ?_
  intro p e s m below meth c A ls R args Q H locs hRe hQ hAe hx hb hr hlocks hml hown hnm hts hsz hA hS hP hK hD hZ hl
  have hRf : R.frames = 4 := by rw [hRe]
  have hRl : R.locals = 111 := by rw [hRe]
  have hRc : R.cells = 0 := by rw [hRe]
  have hRs : R.slots = 0 := by rw [hRe]
  refine lv_aload_n hx hb dX11_read_0 rfl (lv_at hl 0 rfl) ?_
  refine lv_iload_n hx hb dX11_read_1 rfl (lv_at hl 1 rfl) ?_
  refine lv_iload_n hx hb dX11_read_2 rfl (lv_at hl 2 rfl) ?_
  refine lv_iload_n hx hb dX11_read_3 rfl (lv_at hl 3 rfl) ?_
  refine mm_finir (va_runV (As := [.int i_0, .int i_1, .int i_2]) (rest := []) ⟨hx, hb, hml, hown, hts⟩ (K371_X11_isReading l G cy H.size a_0 i_0 i_1 i_2 a_1 a_2 a_3 a_4 a_5 a_6 a_7 a_8 a_9 a_10 a_11 a_12 a_13 i_3 i_4 i_5 i_6 i_7 i_8 i_9 i_10 a_14 a_15 a_16 a_17 a_18 a_19 a_20 a_21 a_22 a_23 h2 h3) (cwV 3 hts (mm_gV mm_w825 mm_w826 mm_w827 mm_w2 mm_w828) rfl rfl rfl hd_X11_isReading ⟨by rw [hRf]; exact Nat.le_of_ble_eq_true rfl, by rw [hRl]; exact Nat.le_of_ble_eq_true rfl⟩) (mm_preV hK hZ hS hA hP hD [0, 1, 2] rfl rfl 0 rfl rfl rfl) rfl rfl hl.1 rfl (lv_room (Nat.le_of_ble_eq_true rfl)) dX11_read_4 ⟨by rw [hRc]; exact Nat.le_of_ble_eq_true rfl, by rw [hRs]; exact Nat.le_of_ble_eq_true rfl⟩) hP hD hS hA [0, 1, 2] rfl (fun _ => rfl) ?_
  clear hP hD hS
  clear H locs
  intro v1 _u H locs hw hP hD hS
  rcases hw with rfl | ⟨rfl, w2, w3, w4⟩
  · refine lv_if_eq (tgt := 23) hx hb dX11_read_7 (by decide) (fun c5 => ?_) (fun c5 => ?_)
    · refine lv_bipush (v := (-2)) hx hb dX11_read_23 (by decide) ?_
      subst hAe
      rw [hQ]
      exact W.iret (v := (-2)) hx hb hr (fun t ht hW => ⟨⟨(-2), (), rfl, trivial, by rw [ht]; exact hP, hK.warm hW, hD⟩, hS.F ht⟩) hS.2.2 dX11_read_25
    · have q6 := mm_neL (lo := 1) (mm_ne c5) mm_k0 mm_k0 (by decide) (by decide)
      exact mm_no q6 (by decide)
  · refine lv_if_eq (tgt := 23) hx hb dX11_read_7 (by decide) (fun c7 => ?_) (fun c7 => ?_)
    · exact mm_eqN c7.symm mm_k0 mm_k1 (by decide)
    · refine lv_aload_n hx hb dX11_read_10 rfl (lv_at hl 0 rfl) ?_
      refine va_get (D := G) (ci := 11) (v := .ref a_3) (C := RX11) (T := TX11) (N := 11) hx hb hts (mm_i inlX11) hown hK.1 hP 0 rfl rfl 2 (by decide) (mm_h hts mm_w24) (fun _ h9 => h9) rfl dX11_read_11 ?_
      refine lv_iload_n hx hb dX11_read_14 rfl (lv_at hl 1 rfl) ?_
      refine lv_iload_n hx hb dX11_read_15 rfl (lv_at hl 2 rfl) ?_
      refine lv_iload_n hx hb dX11_read_16 rfl (lv_at hl 3 rfl) ?_
      refine mm_finir (va_runV (As := [.int i_0, .int i_1, .int i_2]) (rest := []) ⟨hx, hb, hml, hown, hts⟩ (K374_X10_leaving l G cy H.size a_3 i_0 i_1 i_2 a_12 a_13 i_3 i_4 i_5 i_6 i_7 i_8 i_9 i_10 a_14 a_15 a_16 a_17 a_18 a_19 a_20 a_21 a_22 a_23 f_0 f_1 f_2 f_3 f_4 a_24 a_25 a_26 a_27 a_28 i_11 i_12 i_13 f_5 a_29 a_30 i_14 i_15 i_16 f_6 a_31 a_32 i_17 i_18 i_19 f_7 w2 (mm_wk w3 (by decide)) w4 h0 h1 h4 h5 h6 h7 h8 h9 h10 h11 h12 h13 h14) (cwV 3 hts (mm_gV mm_w829 mm_w830 mm_w831 mm_w23 mm_w832) rfl rfl rfl hd_X10_leaving ⟨by rw [hRf]; exact Nat.le_of_ble_eq_true rfl, by rw [hRl]; exact Nat.le_of_ble_eq_true rfl⟩) (mm_preV hK hZ hS hA hP hD [1, 2, 3, 4, 5, 6, 7, 8, 9, 10, 11, 12, 13, 14] rfl rfl 1 rfl rfl rfl) rfl rfl hl.1 rfl (lv_room (Nat.le_of_ble_eq_true rfl)) dX11_read_17 ⟨by rw [hRc]; exact Nat.le_of_ble_eq_true rfl, by rw [hRs]; exact Nat.le_of_ble_eq_true rfl⟩) hP hD hS hA [1, 2, 3, 4, 5, 6, 7, 8, 9, 10, 11, 12, 13, 14] rfl (fun _ => rfl) ?_
      clear hP hD hS
      clear H locs
      intro v8 _u H locs hw hP hD hS
      refine lv_goto (tgt := 25) hx hb dX11_read_20 (by decide) ?_
      subst hAe
      rw [hQ]
      exact W.iret (v := v8) hx hb hr (fun t ht hW => ⟨⟨v8, (), rfl, trivial, by rw [ht]; exact hP, hK.warm hW, hD⟩, hS.F ht⟩) hS.2.2 dX11_read_25

set_option maxHeartbeats 4000000 in
set_option maxRecDepth 100000 in
theorem K376_X10_placesRead (l : Launch) (G : va_G) (cy : Nat → ClassId) (sz : Nat) (a_0 : Nat) (i_0 : Int32) (i_1 : Int32) (i_2 : Int32) (a_1 : Nat) (a_2 : Nat) (i_3 : Int32) (i_4 : Int32) (i_5 : Int32) (i_6 : Int32) (i_7 : Int32) (i_8 : Int32) (i_9 : Int32) (i_10 : Int32) (a_3 : Nat) (a_4 : Nat) (a_5 : Nat) (a_6 : Nat) (a_7 : Nat) (a_8 : Nat) (a_9 : Nat) (a_10 : Nat) (a_11 : Nat) (a_12 : Nat) (f_0 : Nat → Int32) (f_1 : Nat → Int32) (f_2 : Nat → Int32) (f_3 : Nat → Int32) (f_4 : Nat → Int32) (a_13 : Nat) (a_14 : Nat) (a_15 : Nat) (a_16 : Nat) (a_17 : Nat) (i_11 : Int32) (i_12 : Int32) (i_13 : Int32) (f_5 : Nat → Int32) (a_18 : Nat) (a_19 : Nat) (i_14 : Int32) (i_15 : Int32) (i_16 : Int32) (f_6 : Nat → Int32) (a_20 : Nat) (a_21 : Nat) (i_17 : Int32) (i_18 : Int32) (i_19 : Int32) (f_7 : Nat → Int32) (h0 : mm_rg i_0 0 2) (h1 : mm_rg i_1 0 2147483647) (h2 : mm_rg i_2 0 5) (h3 : mm_rg i_6 0 99) (h4 : mm_rg i_7 0 9) (h5 : mm_ar f_0 (-1) 4) (h6 : mm_ar f_1 0 99) (h7 : mm_ar f_2 0 8) (h8 : mm_ar f_3 0 9) (h9 : mm_ar f_4 0 9) (h10 : mm_rg i_13 (-2147483648) 210) (h11 : mm_ar f_5 0 9) (h12 : mm_rg i_16 (-2147483648) 210) (h13 : mm_ar f_6 0 9) (h14 : mm_rg i_19 (-2147483648) 210) (h15 : mm_ar f_7 0 9)  : mm_CI l yX10_placesRead (mm_ws yX10_placesRead cX10_placesRead 7 (some .int)) ({ frames := 2, cells := 0, slots := 0, locals := 62 } : Room) G cy sz [(a_0, .inr (10, [.ref a_1, .ref a_2])), (a_1, .inr (0, [.int i_3, .int i_4, .int i_5, .int i_6, .int i_7, .int i_8, .int i_9, .int i_10, .ref a_3, .ref a_4, .ref a_5, .ref a_6, .ref a_7, .ref a_8, .ref a_9, .ref a_10, .ref a_11, .ref a_12])), (a_3, .inl (cy 1, 9, .inl f_0)), (a_4, .inl (cy 1, 9, .inl f_1)), (a_7, .inl (cy 1, 6, .inl f_2)), (a_8, .inl (cy 1, 48, .inl f_3)), (a_9, .inl (cy 1, 30, .inl f_4)), (a_2, .inl (cy 5, 3, .inr (.inr (.inr (.inr (va_up (va_up (va_up (fun _ => none) 0 (some a_13)) 1 (some a_14)) 2 (some a_15))))))), (a_13, .inr (1, [.ref a_16, .ref a_17, .int i_11, .int i_12, .int i_13])), (a_16, .inl (cy 1, 2100, .inl f_5)), (a_14, .inr (1, [.ref a_18, .ref a_19, .int i_14, .int i_15, .int i_16])), (a_18, .inl (cy 1, 2100, .inl f_6)), (a_15, .inr (1, [.ref a_20, .ref a_21, .int i_17, .int i_18, .int i_19])), (a_20, .inl (cy 1, 2100, .inl f_7))] [.ref a_0, .int i_0, .int i_1, .int i_2] (fun u : Unit => [(a_0, .inr (10, [.ref a_1, .ref a_2])), (a_1, .inr (0, [.int i_3, .int i_4, .int i_5, .int i_6, .int i_7, .int i_8, .int i_9, .int i_10, .ref a_3, .ref a_4, .ref a_5, .ref a_6, .ref a_7, .ref a_8, .ref a_9, .ref a_10, .ref a_11, .ref a_12])), (a_3, .inl (cy 1, 9, .inl f_0)), (a_4, .inl (cy 1, 9, .inl f_1)), (a_7, .inl (cy 1, 6, .inl f_2)), (a_8, .inl (cy 1, 48, .inl f_3)), (a_9, .inl (cy 1, 30, .inl f_4)), (a_2, .inl (cy 5, 3, .inr (.inr (.inr (.inr (va_up (va_up (va_up (fun _ => none) 0 (some a_13)) 1 (some a_14)) 2 (some a_15))))))), (a_13, .inr (1, [.ref a_16, .ref a_17, .int i_11, .int i_12, .int i_13])), (a_16, .inl (cy 1, 2100, .inl f_5)), (a_14, .inr (1, [.ref a_18, .ref a_19, .int i_14, .int i_15, .int i_16])), (a_18, .inl (cy 1, 2100, .inl f_6)), (a_15, .inr (1, [.ref a_20, .ref a_21, .int i_17, .int i_18, .int i_19])), (a_20, .inl (cy 1, 2100, .inl f_7))]) (fun (r : Int32) (u : Unit) => mm_rg r 0 2147483647) 0 0 := by
  refine mm_begin (lv := [(0, .ref a_0), (1, .int i_0), (2, .int i_1), (3, .int i_2)]) (by decide) (Nat.le_of_ble_eq_true rfl) rfl ?_
  intro p e s m below meth c A ls R args Q H locs hRe hQ hAe hx hb hr hlocks hml hown hnm hts hsz hA hS hP hK hD hZ hl
  have hRf : R.frames = 2 := by rw [hRe]
  have hRl : R.locals = 62 := by rw [hRe]
  have hRc : R.cells = 0 := by rw [hRe]
  have hRs : R.slots = 0 := by rw [hRe]
  refine lv_iconst (v := 0) hx hb dX10_placesRead_0 (by decide) ?_
  refine lv_istore (lv' := [(4, .int 0), (0, .ref a_0), (1, .int i_0), (2, .int i_1), (3, .int i_2)]) hx hb dX10_placesRead_1 hl (by decide) rfl ?_
  clear hl
  clear ls
  intro ls hl
  refine lv_aload_n hx hb dX10_placesRead_3 rfl (lv_at hl 1 rfl) ?_
  refine va_get (D := G) (ci := 10) (v := .ref a_1) (C := RX10) (T := TX10) (N := 2) hx hb hts (mm_i inlX10) hown hK.1 hP 0 rfl rfl 0 (by decide) (mm_h hts mm_w87) (fun _ h9 => h9) rfl dX10_placesRead_4 ?_
  refine va_get (D := G) (ci := 0) (v := .int i_6) (C := RX0) (T := TX0) (N := 18) hx hb hts (mm_i inlX0) hown hK.1 hP 1 rfl rfl 3 (by decide) (mm_h hts mm_w833) (fun _ h9 => h9) rfl dX10_placesRead_7 ?_
  refine lv_istore (lv' := [(5, .int i_6), (4, .int 0), (0, .ref a_0), (1, .int i_0), (2, .int i_1), (3, .int i_2)]) hx hb dX10_placesRead_10 hl (by decide) rfl ?_
  clear hl
  clear ls
  intro ls hl
  refine lv_iconst (v := 0) hx hb dX10_placesRead_12 (by decide) ?_
  refine lv_istore (lv' := [(6, .int 0), (5, .int i_6), (4, .int 0), (0, .ref a_0), (1, .int i_0), (2, .int i_1), (3, .int i_2)]) hx hb dX10_placesRead_13 hl (by decide) rfl ?_
  clear hl
  clear ls
  intro ls hl
  have L15_282 : ∀ (n : Nat) (x15_6_280 : Int32) (x15_5_281 : Int32) (x15_4_282 : Int32), mm_rg x15_6_280 0 8 → mm_rg x15_4_282 0 2147483647 → (8 - x15_6_280.toInt).toNat < n → ∀ (H : Heap) (locs : List Loc), va_P G vwCl [(a_0, .inr (10, [.ref a_1, .ref a_2])), (a_1, .inr (0, [.int i_3, .int i_4, .int i_5, .int i_6, .int i_7, .int i_8, .int i_9, .int i_10, .ref a_3, .ref a_4, .ref a_5, .ref a_6, .ref a_7, .ref a_8, .ref a_9, .ref a_10, .ref a_11, .ref a_12])), (a_3, .inl (cy 1, 9, .inl f_0)), (a_4, .inl (cy 1, 9, .inl f_1)), (a_7, .inl (cy 1, 6, .inl f_2)), (a_8, .inl (cy 1, 48, .inl f_3)), (a_9, .inl (cy 1, 30, .inl f_4)), (a_2, .inl (cy 5, 3, .inr (.inr (.inr (.inr (va_up (va_up (va_up (fun _ => none) 0 (some a_13)) 1 (some a_14)) 2 (some a_15))))))), (a_13, .inr (1, [.ref a_16, .ref a_17, .int i_11, .int i_12, .int i_13])), (a_16, .inl (cy 1, 2100, .inl f_5)), (a_14, .inr (1, [.ref a_18, .ref a_19, .int i_14, .int i_15, .int i_16])), (a_18, .inl (cy 1, 2100, .inl f_6)), (a_15, .inr (1, [.ref a_20, .ref a_21, .int i_17, .int i_18, .int i_19])), (a_20, .inl (cy 1, 2100, .inl f_7))] H → va_D A [(a_0, .inr (10, [.ref a_1, .ref a_2])), (a_1, .inr (0, [.int i_3, .int i_4, .int i_5, .int i_6, .int i_7, .int i_8, .int i_9, .int i_10, .ref a_3, .ref a_4, .ref a_5, .ref a_6, .ref a_7, .ref a_8, .ref a_9, .ref a_10, .ref a_11, .ref a_12])), (a_3, .inl (cy 1, 9, .inl f_0)), (a_4, .inl (cy 1, 9, .inl f_1)), (a_7, .inl (cy 1, 6, .inl f_2)), (a_8, .inl (cy 1, 48, .inl f_3)), (a_9, .inl (cy 1, 30, .inl f_4)), (a_2, .inl (cy 5, 3, .inr (.inr (.inr (.inr (va_up (va_up (va_up (fun _ => none) 0 (some a_13)) 1 (some a_14)) 2 (some a_15))))))), (a_13, .inr (1, [.ref a_16, .ref a_17, .int i_11, .int i_12, .int i_13])), (a_16, .inl (cy 1, 2100, .inl f_5)), (a_14, .inr (1, [.ref a_18, .ref a_19, .int i_14, .int i_15, .int i_16])), (a_18, .inl (cy 1, 2100, .inl f_6)), (a_15, .inr (1, [.ref a_20, .ref a_21, .int i_17, .int i_18, .int i_19])), (a_20, .inl (cy 1, 2100, .inl f_7))] → va_S A s.heap H locs → ∀ (ls : Array Slot), lv_has ls 7 [(6, .int x15_6_280), (5, .int x15_5_281), (4, .int x15_4_282), (0, .ref a_0), (1, .int i_0), (2, .int i_1), (3, .int i_2)] → W p l e R s m args below meth c H locs 0 0 Q (F0 m 15 ls []) := by
    intro n
    induction n with
    | zero => intro x15_6_280 x15_5_281 x15_4_282 rx15_6_280 rx15_4_282 hm; exact absurd hm (Nat.not_lt_zero _)
    | succ n ih15 =>
      intro x15_6_280 x15_5_281 x15_4_282 rx15_6_280 rx15_4_282 hm15 H locs hP hD hS ls hl
      refine lv_iload hx hb dX10_placesRead_15 (lv_at hl 0 rfl) ?_
      refine lv_aload_n hx hb dX10_placesRead_17 rfl (lv_at hl 3 rfl) ?_
      refine va_get (D := G) (ci := 10) (v := .ref a_1) (C := RX10) (T := TX10) (N := 2) hx hb hts (mm_i inlX10) hown hK.1 hP 0 rfl rfl 0 (by decide) (mm_h hts mm_w87) (fun _ h9 => h9) rfl dX10_placesRead_18 ?_
      refine va_get (D := G) (ci := 0) (v := .ref a_7) (C := RX0) (T := TX0) (N := 18) hx hb hts (mm_i inlX0) hown hK.1 hP 1 rfl rfl 12 (by decide) (mm_h hts mm_w838) (fun _ h9 => h9) rfl dX10_placesRead_21 ?_
      refine lv_iload_n hx hb dX10_placesRead_24 rfl (lv_at hl 6 rfl) ?_
      refine va_iald hx hb hK.1 hP 4 1 rfl rfl (mm_in h2 (by decide)) dX10_placesRead_25 ?_
      refine lv_topi (fun v284 ev284 => ?_)
      have rv284 : mm_rg v284 0 8 := mm_eqv ev284 (h7 _)
      refine lv_icmp_ge (tgt := 76) hx hb dX10_placesRead_26 (by decide) (fun c285 => ?_) (fun c285 => ?_)
      · refine lv_iload hx hb dX10_placesRead_76 (lv_at hl 2 rfl) ?_
        subst hAe
        rw [hQ]
        exact W.iret (v := x15_4_282) hx hb hr (fun t ht hW => ⟨⟨x15_4_282, (), rfl, rx15_4_282, by rw [ht]; exact hP, hK.warm hW, hD⟩, hS.F ht⟩) hS.2.2 dX10_placesRead_78
      · have q286 := mm_ltL (h := 7) (mm_nle c285) rx15_6_280 rv284 (by decide)
        have q287 := mm_ltR (lo := 1) (mm_nle c285) rx15_6_280 rv284 (by decide)
        refine lv_iload hx hb dX10_placesRead_29 (lv_at hl 1 rfl) ?_
        refine lv_sipush (v := 10000) hx hb dX10_placesRead_31 (by decide) ?_
        refine lv_icmp_ge (tgt := 46) hx hb dX10_placesRead_34 (by decide) (fun c288 => ?_) (fun c288 => ?_)
        · have q289 := mm_leR (mm_le c288) mm_k10000 (mm_top x15_5_281)
          refine lv_aload_n hx hb dX10_placesRead_46 rfl (lv_at hl 3 rfl) ?_
          refine lv_iload hx hb dX10_placesRead_47 (lv_at hl 1 rfl) ?_
          refine lv_aload_n hx hb dX10_placesRead_49 rfl (lv_at hl 3 rfl) ?_
          refine lv_iload_n hx hb dX10_placesRead_50 rfl (lv_at hl 4 rfl) ?_
          refine lv_iload_n hx hb dX10_placesRead_51 rfl (lv_at hl 5 rfl) ?_
          refine lv_aload_n hx hb dX10_placesRead_52 rfl (lv_at hl 3 rfl) ?_
          refine va_get (D := G) (ci := 10) (v := .ref a_1) (C := RX10) (T := TX10) (N := 2) hx hb hts (mm_i inlX10) hown hK.1 hP 0 rfl rfl 0 (by decide) (mm_h hts mm_w87) (fun _ h9 => h9) rfl dX10_placesRead_53 ?_
          refine lv_iload_n hx hb dX10_placesRead_56 rfl (lv_at hl 6 rfl) ?_
          refine lv_iload hx hb dX10_placesRead_57 (lv_at hl 0 rfl) ?_
          refine mm_finir (va_runV (As := [.int i_2, .int x15_6_280]) (rest := [.int i_1, .int i_0, .ref a_0, .int x15_5_281, .ref a_0]) ⟨hx, hb, hml, hown, hts⟩ (K348_X0_wordAt l G cy H.size a_1 i_2 x15_6_280 i_3 i_4 i_5 i_6 i_7 i_8 i_9 i_10 a_3 a_4 a_5 a_6 a_7 a_8 a_9 a_10 a_11 a_12 f_3 h2 q286 h8) (cwV 2 hts (mm_gV mm_w839 mm_w606 mm_w607 mm_w28 mm_w608) rfl rfl rfl hd_X0_wordAt ⟨by rw [hRf]; exact Nat.le_of_ble_eq_true rfl, by rw [hRl]; exact Nat.le_of_ble_eq_true rfl⟩) (mm_preV hK hZ hS hA hP hD [1, 5] rfl rfl 1 rfl rfl rfl) rfl rfl hl.1 rfl (lv_room (Nat.le_of_ble_eq_true rfl)) dX10_placesRead_59 ⟨by rw [hRc]; exact Nat.le_of_ble_eq_true rfl, by rw [hRs]; exact Nat.le_of_ble_eq_true rfl⟩) hP hD hS hA [1, 5] rfl (fun _ => rfl) ?_
          clear hP hD hS
          clear H locs
          intro v290 _u H locs hw hP hD hS
          have w291 := hw
          refine mm_finir (va_runV (As := [.int i_0, .int i_1, .int v290]) (rest := [.int x15_5_281, .ref a_0]) ⟨hx, hb, hml, hown, hts⟩ (K355_X10_meaning l G cy H.size a_0 i_0 i_1 v290 a_1 a_2 i_3 i_4 i_5 i_6 i_7 i_8 i_9 i_10 a_3 a_4 a_5 a_6 a_7 a_8 a_9 a_10 a_11 a_12 f_4 a_13 a_14 a_15 a_16 a_17 i_11 i_12 i_13 f_5 a_18 a_19 i_14 i_15 i_16 f_6 a_20 a_21 i_17 i_18 i_19 f_7 h0 h1 w291 h9 h10 h11 h12 h13 h14 h15) (cwV 3 hts (mm_gV mm_w730 mm_w666 mm_w667 mm_w23 mm_w668) rfl rfl rfl hd_X10_meaning ⟨by rw [hRf]; exact Nat.le_of_ble_eq_true rfl, by rw [hRl]; exact Nat.le_of_ble_eq_true rfl⟩) (mm_preV hK hZ hS hA hP hD [0, 1, 6, 7, 8, 9, 10, 11, 12, 13] rfl rfl 0 rfl rfl rfl) rfl rfl hl.1 rfl (lv_room (Nat.le_of_ble_eq_true rfl)) dX10_placesRead_62 ⟨by rw [hRc]; exact Nat.le_of_ble_eq_true rfl, by rw [hRs]; exact Nat.le_of_ble_eq_true rfl⟩) hP hD hS hA [0, 1, 6, 7, 8, 9, 10, 11, 12, 13] rfl (fun _ => rfl) ?_
          clear hP hD hS
          clear H locs
          intro v292 _u H locs hw hP hD hS
          have w293 := hw
          refine mm_finir (va_runV (As := [.int x15_5_281, .int v292]) (rest := []) ⟨hx, hb, hml, hown, hts⟩ (K372_X10_after l G cy H.size a_0 x15_5_281 v292 a_1 a_2 i_3 i_4 i_5 i_6 i_7 i_8 i_9 i_10 a_3 a_4 a_5 a_6 a_7 a_8 a_9 a_10 a_11 a_12 f_0 f_1 w293 h4 h5 h6) (cwV 2 hts (mm_gV mm_w840 mm_w841 mm_w842 mm_w23 mm_w843) rfl rfl rfl hd_X10_after ⟨by rw [hRf]; exact Nat.le_of_ble_eq_true rfl, by rw [hRl]; exact Nat.le_of_ble_eq_true rfl⟩) (mm_preV hK hZ hS hA hP hD [0, 1, 2, 3] rfl rfl 0 rfl rfl rfl) rfl rfl hl.1 rfl (lv_room (Nat.le_of_ble_eq_true rfl)) dX10_placesRead_65 ⟨by rw [hRc]; exact Nat.le_of_ble_eq_true rfl, by rw [hRs]; exact Nat.le_of_ble_eq_true rfl⟩) hP hD hS hA [0, 1, 2, 3] rfl (fun _ => rfl) ?_
          clear hP hD hS
          clear H locs
          intro v294 _u H locs hw hP hD hS
          refine lv_istore (lv' := [(5, .int v294), (6, .int x15_6_280), (4, .int x15_4_282), (0, .ref a_0), (1, .int i_0), (2, .int i_1), (3, .int i_2)]) hx hb dX10_placesRead_68 hl (by decide) rfl ?_
          clear hl
          clear ls
          intro ls hl
          obtain ⟨v295, ev295⟩ : ∃ y : Int32, y = x15_6_280 + 1 := ⟨_, rfl⟩
          refine lv_iinc (v := v295) (lv' := [(6, .int v295), (5, .int v294), (4, .int x15_4_282), (0, .ref a_0), (1, .int i_0), (2, .int i_1), (3, .int i_2)]) hx hb dX10_placesRead_70 hl (k := 1) rfl (by rw [ev295]; rfl) (by decide) rfl ?_
          clear hl
          clear ls
          intro ls hl
          have rv295 : mm_rg v295 1 8 := mm_add ev295 q286 mm_k1 (by decide) (by decide)
          have tv295 := mm_addEc ev295 q286 mm_k1 (by decide) (k := 1) (by decide)
          refine lv_goto (tgt := 15) hx hb dX10_placesRead_73 (by decide) ?_
          exact ih15 v295 v294 x15_4_282 (mm_wk rv295 (by decide)) rx15_4_282 (mm_mu hm15 tv295 (by decide) (rv295).2 (by decide)) H locs hP hD hS ls (lv_sub hl [0, 1, 2, 3, 4, 5, 6] rfl)
        · have q296 := mm_ltL (h := 9999) (mm_nle c288) (mm_top x15_5_281) mm_k10000 (by decide)
          refine lv_iload hx hb dX10_placesRead_37 (lv_at hl 2 rfl) ?_
          refine lv_iconst (v := 1) hx hb dX10_placesRead_39 (by decide) ?_
          refine lv_iload hx hb dX10_placesRead_40 (lv_at hl 0 rfl) ?_
          refine lv_ishl hx hb dX10_placesRead_42 ?_
          refine lv_topi (fun v297 ev297 => ?_)
          have rv297 : mm_rg v297 1 128 := mm_shl1 ev297 q286 (by decide)
          refine lv_ior hx hb dX10_placesRead_43 ?_
          refine lv_topi (fun v298 ev298 => ?_)
          have rv298 : mm_rg v298 0 2147483647 := mm_or ev298 31 rx15_4_282 rv297 (by decide)
          refine lv_istore (lv' := [(4, .int v298), (6, .int x15_6_280), (5, .int x15_5_281), (0, .ref a_0), (1, .int i_0), (2, .int i_1), (3, .int i_2)]) hx hb dX10_placesRead_44 hl (by decide) rfl ?_
          clear hl
          clear ls
          intro ls hl
          refine lv_aload_n hx hb dX10_placesRead_46 rfl (lv_at hl 3 rfl) ?_
          refine lv_iload hx hb dX10_placesRead_47 (lv_at hl 2 rfl) ?_
          refine lv_aload_n hx hb dX10_placesRead_49 rfl (lv_at hl 3 rfl) ?_
          refine lv_iload_n hx hb dX10_placesRead_50 rfl (lv_at hl 4 rfl) ?_
          refine lv_iload_n hx hb dX10_placesRead_51 rfl (lv_at hl 5 rfl) ?_
          refine lv_aload_n hx hb dX10_placesRead_52 rfl (lv_at hl 3 rfl) ?_
          refine va_get (D := G) (ci := 10) (v := .ref a_1) (C := RX10) (T := TX10) (N := 2) hx hb hts (mm_i inlX10) hown hK.1 hP 0 rfl rfl 0 (by decide) (mm_h hts mm_w87) (fun _ h9 => h9) rfl dX10_placesRead_53 ?_
          refine lv_iload_n hx hb dX10_placesRead_56 rfl (lv_at hl 6 rfl) ?_
          refine lv_iload hx hb dX10_placesRead_57 (lv_at hl 1 rfl) ?_
          refine mm_finir (va_runV (As := [.int i_2, .int x15_6_280]) (rest := [.int i_1, .int i_0, .ref a_0, .int x15_5_281, .ref a_0]) ⟨hx, hb, hml, hown, hts⟩ (K348_X0_wordAt l G cy H.size a_1 i_2 x15_6_280 i_3 i_4 i_5 i_6 i_7 i_8 i_9 i_10 a_3 a_4 a_5 a_6 a_7 a_8 a_9 a_10 a_11 a_12 f_3 h2 q286 h8) (cwV 2 hts (mm_gV mm_w839 mm_w606 mm_w607 mm_w28 mm_w608) rfl rfl rfl hd_X0_wordAt ⟨by rw [hRf]; exact Nat.le_of_ble_eq_true rfl, by rw [hRl]; exact Nat.le_of_ble_eq_true rfl⟩) (mm_preV hK hZ hS hA hP hD [1, 5] rfl rfl 1 rfl rfl rfl) rfl rfl hl.1 rfl (lv_room (Nat.le_of_ble_eq_true rfl)) dX10_placesRead_59 ⟨by rw [hRc]; exact Nat.le_of_ble_eq_true rfl, by rw [hRs]; exact Nat.le_of_ble_eq_true rfl⟩) hP hD hS hA [1, 5] rfl (fun _ => rfl) ?_
          clear hP hD hS
          clear H locs
          intro v299 _u H locs hw hP hD hS
          have w300 := hw
          refine mm_finir (va_runV (As := [.int i_0, .int i_1, .int v299]) (rest := [.int x15_5_281, .ref a_0]) ⟨hx, hb, hml, hown, hts⟩ (K355_X10_meaning l G cy H.size a_0 i_0 i_1 v299 a_1 a_2 i_3 i_4 i_5 i_6 i_7 i_8 i_9 i_10 a_3 a_4 a_5 a_6 a_7 a_8 a_9 a_10 a_11 a_12 f_4 a_13 a_14 a_15 a_16 a_17 i_11 i_12 i_13 f_5 a_18 a_19 i_14 i_15 i_16 f_6 a_20 a_21 i_17 i_18 i_19 f_7 h0 h1 w300 h9 h10 h11 h12 h13 h14 h15) (cwV 3 hts (mm_gV mm_w730 mm_w666 mm_w667 mm_w23 mm_w668) rfl rfl rfl hd_X10_meaning ⟨by rw [hRf]; exact Nat.le_of_ble_eq_true rfl, by rw [hRl]; exact Nat.le_of_ble_eq_true rfl⟩) (mm_preV hK hZ hS hA hP hD [0, 1, 6, 7, 8, 9, 10, 11, 12, 13] rfl rfl 0 rfl rfl rfl) rfl rfl hl.1 rfl (lv_room (Nat.le_of_ble_eq_true rfl)) dX10_placesRead_62 ⟨by rw [hRc]; exact Nat.le_of_ble_eq_true rfl, by rw [hRs]; exact Nat.le_of_ble_eq_true rfl⟩) hP hD hS hA [0, 1, 6, 7, 8, 9, 10, 11, 12, 13] rfl (fun _ => rfl) ?_
          clear hP hD hS
          clear H locs
          intro v301 _u H locs hw hP hD hS
          have w302 := hw
          refine mm_finir (va_runV (As := [.int x15_5_281, .int v301]) (rest := []) ⟨hx, hb, hml, hown, hts⟩ (K372_X10_after l G cy H.size a_0 x15_5_281 v301 a_1 a_2 i_3 i_4 i_5 i_6 i_7 i_8 i_9 i_10 a_3 a_4 a_5 a_6 a_7 a_8 a_9 a_10 a_11 a_12 f_0 f_1 w302 h4 h5 h6) (cwV 2 hts (mm_gV mm_w840 mm_w841 mm_w842 mm_w23 mm_w843) rfl rfl rfl hd_X10_after ⟨by rw [hRf]; exact Nat.le_of_ble_eq_true rfl, by rw [hRl]; exact Nat.le_of_ble_eq_true rfl⟩) (mm_preV hK hZ hS hA hP hD [0, 1, 2, 3] rfl rfl 0 rfl rfl rfl) rfl rfl hl.1 rfl (lv_room (Nat.le_of_ble_eq_true rfl)) dX10_placesRead_65 ⟨by rw [hRc]; exact Nat.le_of_ble_eq_true rfl, by rw [hRs]; exact Nat.le_of_ble_eq_true rfl⟩) hP hD hS hA [0, 1, 2, 3] rfl (fun _ => rfl) ?_
          clear hP hD hS
          clear H locs
          intro v303 _u H locs hw hP hD hS
          refine lv_istore (lv' := [(5, .int v303), (4, .int v298), (6, .int x15_6_280), (0, .ref a_0), (1, .int i_0), (2, .int i_1), (3, .int i_2)]) hx hb dX10_placesRead_68 hl (by decide) rfl ?_
          clear hl
          clear ls
          intro ls hl
          obtain ⟨v304, ev304⟩ : ∃ y : Int32, y = x15_6_280 + 1 := ⟨_, rfl⟩
          refine lv_iinc (v := v304) (lv' := [(6, .int v304), (5, .int v303), (4, .int v298), (0, .ref a_0), (1, .int i_0), (2, .int i_1), (3, .int i_2)]) hx hb dX10_placesRead_70 hl (k := 2) rfl (by rw [ev304]; rfl) (by decide) rfl ?_
          clear hl
          clear ls
          intro ls hl
          have rv304 : mm_rg v304 1 8 := mm_add ev304 q286 mm_k1 (by decide) (by decide)
          have tv304 := mm_addEc ev304 q286 mm_k1 (by decide) (k := 1) (by decide)
          refine lv_goto (tgt := 15) hx hb dX10_placesRead_73 (by decide) ?_
          exact ih15 v304 v303 v298 (mm_wk rv304 (by decide)) rv298 (mm_mu hm15 tv304 (by decide) (rv304).2 (by decide)) H locs hP hD hS ls (lv_sub hl [0, 1, 2, 3, 4, 5, 6] rfl)
  exact L15_282 _ 0 i_6 0 (mm_wk mm_k0 (by decide)) (mm_wk mm_k0 (by decide)) (Nat.lt_succ_self _) H locs hP hD hS ls (lv_sub hl [0, 1, 2, 3, 4, 5, 6] rfl)

set_option maxHeartbeats 4000000 in
set_option maxRecDepth 100000 in
theorem K377_J6_bitCount_0f7a4 (l : Launch) (G : va_G) (cy : Nat → ClassId) (sz : Nat) (i_0 : Int32)   : mm_CI l yJ6_bitCount_0f7a4 (mm_ws yJ6_bitCount_0f7a4 cJ6_bitCount_0f7a4 1 (some .int)) ({ frames := 0, cells := 0, slots := 0, locals := 0 } : Room) G cy sz [] [.int i_0] (fun u : Unit => []) (fun (r : Int32) (u : Unit) => mm_rg r 0 63) 0 0 := by
  refine mm_begin (lv := [(0, .int i_0)]) (by decide) (Nat.le_of_ble_eq_true rfl) rfl ?_
  intro p e s m below meth c A ls R args Q H locs hRe hQ hAe hx hb hr hlocks hml hown hnm hts hsz hA hS hP hK hD hZ hl
  have hRf : R.frames = 0 := by rw [hRe]
  have hRl : R.locals = 0 := by rw [hRe]
  have hRc : R.cells = 0 := by rw [hRe]
  have hRs : R.slots = 0 := by rw [hRe]
  refine lv_iload_n hx hb dJ6_bitCount_0f7a4_0 rfl (lv_at hl 0 rfl) ?_
  refine lv_iload_n hx hb dJ6_bitCount_0f7a4_1 rfl (lv_at hl 0 rfl) ?_
  refine lv_iconst (v := 1) hx hb dJ6_bitCount_0f7a4_2 (by decide) ?_
  obtain ⟨v1, ev1⟩ : ∃ z : Int32, z = (Int32.toUInt32 i_0 >>> (Int32.toUInt32 1 &&& Int32.toUInt32 31)).toInt32 := ⟨_, rfl⟩
  refine lv_iushr hx hb dJ6_bitCount_0f7a4_3 ev1.symm ?_
  refine lv_ldcw (v := 1431655765) hx hb hown (mm_h hts mm_w883) dJ6_bitCount_0f7a4_4 ?_
  refine lv_iand hx hb dJ6_bitCount_0f7a4_7 ?_
  refine lv_topi (fun v2 ev2 => ?_)
  have rv2 : mm_rg v2 0 1431655765 := mm_andR ev2 mm_k1431655765 (by decide)
  refine lv_isub hx hb dJ6_bitCount_0f7a4_8 ?_
  refine lv_topi (fun v3 ev3 => ?_)
  refine lv_istore_n (lv' := [(0, .int v3)]) hx hb dJ6_bitCount_0f7a4_9 rfl hl (by decide) rfl ?_
  clear hl
  clear ls
  intro ls hl
  refine lv_iload_n hx hb dJ6_bitCount_0f7a4_10 rfl (lv_at hl 0 rfl) ?_
  refine lv_ldcw (v := 858993459) hx hb hown (mm_h hts mm_w884) dJ6_bitCount_0f7a4_11 ?_
  refine lv_iand hx hb dJ6_bitCount_0f7a4_14 ?_
  refine lv_topi (fun v4 ev4 => ?_)
  have rv4 : mm_rg v4 0 858993459 := mm_andR ev4 mm_k858993459 (by decide)
  refine lv_iload_n hx hb dJ6_bitCount_0f7a4_15 rfl (lv_at hl 0 rfl) ?_
  refine lv_iconst (v := 2) hx hb dJ6_bitCount_0f7a4_16 (by decide) ?_
  obtain ⟨v5, ev5⟩ : ∃ z : Int32, z = (Int32.toUInt32 v3 >>> (Int32.toUInt32 2 &&& Int32.toUInt32 31)).toInt32 := ⟨_, rfl⟩
  refine lv_iushr hx hb dJ6_bitCount_0f7a4_17 ev5.symm ?_
  refine lv_ldcw (v := 858993459) hx hb hown (mm_h hts mm_w884) dJ6_bitCount_0f7a4_18 ?_
  refine lv_iand hx hb dJ6_bitCount_0f7a4_21 ?_
  refine lv_topi (fun v6 ev6 => ?_)
  have rv6 : mm_rg v6 0 858993459 := mm_andR ev6 mm_k858993459 (by decide)
  refine lv_iadd hx hb dJ6_bitCount_0f7a4_22 ?_
  refine lv_topi (fun v7 ev7 => ?_)
  have rv7 : mm_rg v7 0 1717986918 := mm_add ev7 rv4 rv6 (by decide) (by decide)
  have tv7 := mm_addE ev7 rv4 rv6 (by decide)
  refine lv_istore_n (lv' := [(0, .int v7)]) hx hb dJ6_bitCount_0f7a4_23 rfl hl (by decide) rfl ?_
  clear hl
  clear ls
  intro ls hl
  refine lv_iload_n hx hb dJ6_bitCount_0f7a4_24 rfl (lv_at hl 0 rfl) ?_
  refine lv_iload_n hx hb dJ6_bitCount_0f7a4_25 rfl (lv_at hl 0 rfl) ?_
  refine lv_iconst (v := 4) hx hb dJ6_bitCount_0f7a4_26 (by decide) ?_
  obtain ⟨v8, ev8⟩ : ∃ z : Int32, z = (Int32.toUInt32 v7 >>> (Int32.toUInt32 4 &&& Int32.toUInt32 31)).toInt32 := ⟨_, rfl⟩
  refine lv_iushr hx hb dJ6_bitCount_0f7a4_27 ev8.symm ?_
  refine lv_iadd hx hb dJ6_bitCount_0f7a4_28 ?_
  refine lv_topi (fun v9 ev9 => ?_)
  refine lv_ldcw (v := 252645135) hx hb hown (mm_h hts mm_w885) dJ6_bitCount_0f7a4_29 ?_
  refine lv_iand hx hb dJ6_bitCount_0f7a4_32 ?_
  refine lv_topi (fun v10 ev10 => ?_)
  have rv10 : mm_rg v10 0 252645135 := mm_andR ev10 mm_k252645135 (by decide)
  refine lv_istore_n (lv' := [(0, .int v10)]) hx hb dJ6_bitCount_0f7a4_33 rfl hl (by decide) rfl ?_
  clear hl
  clear ls
  intro ls hl
  refine lv_iload_n hx hb dJ6_bitCount_0f7a4_34 rfl (lv_at hl 0 rfl) ?_
  refine lv_iload_n hx hb dJ6_bitCount_0f7a4_35 rfl (lv_at hl 0 rfl) ?_
  refine lv_bipush (v := 8) hx hb dJ6_bitCount_0f7a4_36 (by decide) ?_
  obtain ⟨v11, ev11⟩ : ∃ z : Int32, z = (Int32.toUInt32 v10 >>> (Int32.toUInt32 8 &&& Int32.toUInt32 31)).toInt32 := ⟨_, rfl⟩
  refine lv_iushr hx hb dJ6_bitCount_0f7a4_38 ev11.symm ?_
  refine lv_iadd hx hb dJ6_bitCount_0f7a4_39 ?_
  refine lv_topi (fun v12 ev12 => ?_)
  refine lv_istore_n (lv' := [(0, .int v12)]) hx hb dJ6_bitCount_0f7a4_40 rfl hl (by decide) rfl ?_
  clear hl
  clear ls
  intro ls hl
  refine lv_iload_n hx hb dJ6_bitCount_0f7a4_41 rfl (lv_at hl 0 rfl) ?_
  refine lv_iload_n hx hb dJ6_bitCount_0f7a4_42 rfl (lv_at hl 0 rfl) ?_
  refine lv_bipush (v := 16) hx hb dJ6_bitCount_0f7a4_43 (by decide) ?_
  obtain ⟨v13, ev13⟩ : ∃ z : Int32, z = (Int32.toUInt32 v12 >>> (Int32.toUInt32 16 &&& Int32.toUInt32 31)).toInt32 := ⟨_, rfl⟩
  refine lv_iushr hx hb dJ6_bitCount_0f7a4_45 ev13.symm ?_
  refine lv_iadd hx hb dJ6_bitCount_0f7a4_46 ?_
  refine lv_topi (fun v14 ev14 => ?_)
  refine lv_istore_n (lv' := [(0, .int v14)]) hx hb dJ6_bitCount_0f7a4_47 rfl hl (by decide) rfl ?_
  clear hl
  clear ls
  intro ls hl
  refine lv_iload_n hx hb dJ6_bitCount_0f7a4_48 rfl (lv_at hl 0 rfl) ?_
  refine lv_bipush (v := 63) hx hb dJ6_bitCount_0f7a4_49 (by decide) ?_
  refine lv_iand hx hb dJ6_bitCount_0f7a4_51 ?_
  refine lv_topi (fun v15 ev15 => ?_)
  have rv15 : mm_rg v15 0 63 := mm_andR ev15 mm_k63 (by decide)
  subst hAe
  rw [hQ]
  exact W.iret (v := v15) hx hb hr (fun t ht hW => ⟨⟨v15, (), rfl, rv15, by rw [ht]; exact hP, hK.warm hW, hD⟩, hS.F ht⟩) hS.2.2 dJ6_bitCount_0f7a4_52

set_option maxHeartbeats 4000000 in
set_option maxRecDepth 100000 in
theorem K378_X11_heard (l : Launch) (G : va_G) (cy : Nat → ClassId) (sz : Nat) (a_0 : Nat) (i_0 : Int32) (i_1 : Int32) (i_2 : Int32) (a_1 : Nat) (a_2 : Nat) (a_3 : Nat) (a_4 : Nat) (a_5 : Nat) (a_6 : Nat) (a_7 : Nat) (a_8 : Nat) (a_9 : Nat) (a_10 : Nat) (a_11 : Nat) (a_12 : Nat) (a_13 : Nat) (i_3 : Int32) (i_4 : Int32) (i_5 : Int32) (i_6 : Int32) (i_7 : Int32) (i_8 : Int32) (i_9 : Int32) (i_10 : Int32) (a_14 : Nat) (a_15 : Nat) (a_16 : Nat) (a_17 : Nat) (a_18 : Nat) (a_19 : Nat) (a_20 : Nat) (a_21 : Nat) (a_22 : Nat) (a_23 : Nat) (f_0 : Nat → Int32) (f_1 : Nat → Int32) (f_2 : Nat → Int32) (f_3 : Nat → Int32) (f_4 : Nat → Int32) (a_24 : Nat) (a_25 : Nat) (a_26 : Nat) (a_27 : Nat) (a_28 : Nat) (i_11 : Int32) (i_12 : Int32) (i_13 : Int32) (f_5 : Nat → Int32) (a_29 : Nat) (a_30 : Nat) (i_14 : Int32) (i_15 : Int32) (i_16 : Int32) (f_6 : Nat → Int32) (a_31 : Nat) (a_32 : Nat) (i_17 : Int32) (i_18 : Int32) (i_19 : Int32) (f_7 : Nat → Int32) (h0 : mm_rg i_6 0 99) (h1 : mm_rg i_7 0 9) (h2 : mm_rg i_8 0 3) (h3 : mm_rg i_9 0 6) (h4 : mm_ar f_0 (-1) 4) (h5 : mm_ar f_1 0 99) (h6 : mm_ar f_2 0 8) (h7 : mm_ar f_3 0 9) (h8 : mm_ar f_4 0 9) (h9 : mm_rg i_13 (-2147483648) 210) (h10 : mm_ar f_5 0 9) (h11 : mm_rg i_16 (-2147483648) 210) (h12 : mm_ar f_6 0 9) (h13 : mm_rg i_19 (-2147483648) 210) (h14 : mm_ar f_7 0 9)  : mm_CI l yX11_heard (mm_ws yX11_heard cX11_heard 4 (some .int)) ({ frames := 3, cells := 0, slots := 0, locals := 88 } : Room) G cy sz [(a_0, .inr (11, [.ref a_1, .ref a_2, .ref a_3, .ref a_4, .ref a_5, .ref a_6, .ref a_7, .ref a_8, .ref a_9, .ref a_10, .ref a_11])), (a_3, .inr (10, [.ref a_12, .ref a_13])), (a_12, .inr (0, [.int i_3, .int i_4, .int i_5, .int i_6, .int i_7, .int i_8, .int i_9, .int i_10, .ref a_14, .ref a_15, .ref a_16, .ref a_17, .ref a_18, .ref a_19, .ref a_20, .ref a_21, .ref a_22, .ref a_23])), (a_14, .inl (cy 1, 9, .inl f_0)), (a_15, .inl (cy 1, 9, .inl f_1)), (a_18, .inl (cy 1, 6, .inl f_2)), (a_19, .inl (cy 1, 48, .inl f_3)), (a_20, .inl (cy 1, 30, .inl f_4)), (a_13, .inl (cy 5, 3, .inr (.inr (.inr (.inr (va_up (va_up (va_up (fun _ => none) 0 (some a_24)) 1 (some a_25)) 2 (some a_26))))))), (a_24, .inr (1, [.ref a_27, .ref a_28, .int i_11, .int i_12, .int i_13])), (a_27, .inl (cy 1, 2100, .inl f_5)), (a_25, .inr (1, [.ref a_29, .ref a_30, .int i_14, .int i_15, .int i_16])), (a_29, .inl (cy 1, 2100, .inl f_6)), (a_26, .inr (1, [.ref a_31, .ref a_32, .int i_17, .int i_18, .int i_19])), (a_31, .inl (cy 1, 2100, .inl f_7))] [.ref a_0, .int i_0, .int i_1, .int i_2] (fun u : Unit => [(a_0, .inr (11, [.ref a_1, .ref a_2, .ref a_3, .ref a_4, .ref a_5, .ref a_6, .ref a_7, .ref a_8, .ref a_9, .ref a_10, .ref a_11])), (a_3, .inr (10, [.ref a_12, .ref a_13])), (a_12, .inr (0, [.int i_3, .int i_4, .int i_5, .int i_6, .int i_7, .int i_8, .int i_9, .int i_10, .ref a_14, .ref a_15, .ref a_16, .ref a_17, .ref a_18, .ref a_19, .ref a_20, .ref a_21, .ref a_22, .ref a_23])), (a_14, .inl (cy 1, 9, .inl f_0)), (a_15, .inl (cy 1, 9, .inl f_1)), (a_18, .inl (cy 1, 6, .inl f_2)), (a_19, .inl (cy 1, 48, .inl f_3)), (a_20, .inl (cy 1, 30, .inl f_4)), (a_13, .inl (cy 5, 3, .inr (.inr (.inr (.inr (va_up (va_up (va_up (fun _ => none) 0 (some a_24)) 1 (some a_25)) 2 (some a_26))))))), (a_24, .inr (1, [.ref a_27, .ref a_28, .int i_11, .int i_12, .int i_13])), (a_27, .inl (cy 1, 2100, .inl f_5)), (a_25, .inr (1, [.ref a_29, .ref a_30, .int i_14, .int i_15, .int i_16])), (a_29, .inl (cy 1, 2100, .inl f_6)), (a_26, .inr (1, [.ref a_31, .ref a_32, .int i_17, .int i_18, .int i_19])), (a_31, .inl (cy 1, 2100, .inl f_7))]) (fun (r : Int32) (u : Unit) => mm_rg r (-2) 63) 0 0 := by
  refine mm_begin (lv := [(0, .ref a_0), (1, .int i_0), (2, .int i_1), (3, .int i_2)]) (by decide) (Nat.le_of_ble_eq_true rfl) rfl ?_
  intro p e s m below meth c A ls R args Q H locs hRe hQ hAe hx hb hr hlocks hml hown hnm hts hsz hA hS hP hK hD hZ hl
  have hRf : R.frames = 3 := by rw [hRe]
  have hRl : R.locals = 88 := by rw [hRe]
  have hRc : R.cells = 0 := by rw [hRe]
  have hRs : R.slots = 0 := by rw [hRe]
  refine lv_aload_n hx hb dX11_heard_0 rfl (lv_at hl 0 rfl) ?_
  refine lv_iload_n hx hb dX11_heard_1 rfl (lv_at hl 1 rfl) ?_
  refine lv_iload_n hx hb dX11_heard_2 rfl (lv_at hl 2 rfl) ?_
  refine lv_iload_n hx hb dX11_heard_3 rfl (lv_at hl 3 rfl) ?_
  refine mm_finir (va_runV (As := [.int i_0, .int i_1, .int i_2]) (rest := []) ⟨hx, hb, hml, hown, hts⟩ (K371_X11_isReading l G cy H.size a_0 i_0 i_1 i_2 a_1 a_2 a_3 a_4 a_5 a_6 a_7 a_8 a_9 a_10 a_11 a_12 a_13 i_3 i_4 i_5 i_6 i_7 i_8 i_9 i_10 a_14 a_15 a_16 a_17 a_18 a_19 a_20 a_21 a_22 a_23 h2 h3) (cwV 3 hts (mm_gV mm_w825 mm_w826 mm_w827 mm_w2 mm_w828) rfl rfl rfl hd_X11_isReading ⟨by rw [hRf]; exact Nat.le_of_ble_eq_true rfl, by rw [hRl]; exact Nat.le_of_ble_eq_true rfl⟩) (mm_preV hK hZ hS hA hP hD [0, 1, 2] rfl rfl 0 rfl rfl rfl) rfl rfl hl.1 rfl (lv_room (Nat.le_of_ble_eq_true rfl)) dX11_heard_4 ⟨by rw [hRc]; exact Nat.le_of_ble_eq_true rfl, by rw [hRs]; exact Nat.le_of_ble_eq_true rfl⟩) hP hD hS hA [0, 1, 2] rfl (fun _ => rfl) ?_
  clear hP hD hS
  clear H locs
  intro v1 _u H locs hw hP hD hS
  rcases hw with rfl | ⟨rfl, w2, w3, w4⟩
  · refine lv_if_ne (tgt := 13) hx hb dX11_heard_7 (by decide) (fun c5 => ?_) (fun c5 => ?_)
    · have q6 := mm_neL (lo := 1) (mm_ne c5) mm_k0 mm_k0 (by decide) (by decide)
      exact mm_no q6 (by decide)
    · refine lv_bipush (v := (-2)) hx hb dX11_heard_10 (by decide) ?_
      subst hAe
      rw [hQ]
      exact W.iret (v := (-2)) hx hb hr (fun t ht hW => ⟨⟨(-2), (), rfl, (mm_wk mm_km2 (by decide)), by rw [ht]; exact hP, hK.warm hW, hD⟩, hS.F ht⟩) hS.2.2 dX11_heard_12
  · refine lv_if_ne (tgt := 13) hx hb dX11_heard_7 (by decide) (fun c7 => ?_) (fun c7 => ?_)
    · refine lv_aload_n hx hb dX11_heard_13 rfl (lv_at hl 0 rfl) ?_
      refine va_get (D := G) (ci := 11) (v := .ref a_3) (C := RX11) (T := TX11) (N := 11) hx hb hts (mm_i inlX11) hown hK.1 hP 0 rfl rfl 2 (by decide) (mm_h hts mm_w24) (fun _ h9 => h9) rfl dX11_heard_14 ?_
      refine lv_iload_n hx hb dX11_heard_17 rfl (lv_at hl 1 rfl) ?_
      refine lv_iload_n hx hb dX11_heard_18 rfl (lv_at hl 2 rfl) ?_
      refine lv_iload_n hx hb dX11_heard_19 rfl (lv_at hl 3 rfl) ?_
      refine mm_finir (va_runV (As := [.int i_0, .int i_1, .int i_2]) (rest := []) ⟨hx, hb, hml, hown, hts⟩ (K376_X10_placesRead l G cy H.size a_3 i_0 i_1 i_2 a_12 a_13 i_3 i_4 i_5 i_6 i_7 i_8 i_9 i_10 a_14 a_15 a_16 a_17 a_18 a_19 a_20 a_21 a_22 a_23 f_0 f_1 f_2 f_3 f_4 a_24 a_25 a_26 a_27 a_28 i_11 i_12 i_13 f_5 a_29 a_30 i_14 i_15 i_16 f_6 a_31 a_32 i_17 i_18 i_19 f_7 w2 (mm_wk w3 (by decide)) w4 h0 h1 h4 h5 h6 h7 h8 h9 h10 h11 h12 h13 h14) (cwV 3 hts (mm_gV mm_w875 mm_w876 mm_w877 mm_w23 mm_w878) rfl rfl rfl hd_X10_placesRead ⟨by rw [hRf]; exact Nat.le_of_ble_eq_true rfl, by rw [hRl]; exact Nat.le_of_ble_eq_true rfl⟩) (mm_preV hK hZ hS hA hP hD [1, 2, 3, 4, 5, 6, 7, 8, 9, 10, 11, 12, 13, 14] rfl rfl 1 rfl rfl rfl) rfl rfl hl.1 rfl (lv_room (Nat.le_of_ble_eq_true rfl)) dX11_heard_20 ⟨by rw [hRc]; exact Nat.le_of_ble_eq_true rfl, by rw [hRs]; exact Nat.le_of_ble_eq_true rfl⟩) hP hD hS hA [1, 2, 3, 4, 5, 6, 7, 8, 9, 10, 11, 12, 13, 14] rfl (fun _ => rfl) ?_
      clear hP hD hS
      clear H locs
      intro v8 _u H locs hw hP hD hS
      have w9 := hw
      refine mm_finir (va_runS (As := [.int v8]) (rest := []) ⟨hx, hb, hml, hown, hts⟩ (K377_J6_bitCount_0f7a4 l G cy H.size v8 ) (va_cwS 1 hts (mm_gS mm_w879 mm_w880 mm_w881 mm_w882) rfl rfl rfl hs_J6_bitCount_0f7a4 ⟨by rw [hRf]; exact Nat.le_of_ble_eq_true rfl, by rw [hRl]; exact Nat.le_of_ble_eq_true rfl⟩) (mm_preS hK hZ hS hA hP hD [] rfl rfl) rfl rfl hl.1 rfl (lv_room (Nat.le_of_ble_eq_true rfl)) dX11_heard_23 ⟨by rw [hRc]; exact Nat.le_of_ble_eq_true rfl, by rw [hRs]; exact Nat.le_of_ble_eq_true rfl⟩) hP hD hS hA [] rfl (fun _ => rfl) ?_
      clear hP hD hS
      clear H locs
      intro v10 _u H locs hw hP hD hS
      have w11 := hw
      subst hAe
      rw [hQ]
      exact W.iret (v := v10) hx hb hr (fun t ht hW => ⟨⟨v10, (), rfl, (mm_wk w11 (by decide)), by rw [ht]; exact hP, hK.warm hW, hD⟩, hS.F ht⟩) hS.2.2 dX11_heard_26
    · exact mm_eqN c7.symm mm_k0 mm_k1 (by decide)

set_option maxHeartbeats 4000000 in
set_option maxRecDepth 100000 in
theorem K379_X11_silent (l : Launch) (G : va_G) (cy : Nat → ClassId) (sz : Nat) (a_0 : Nat) (i_0 : Int32) (i_1 : Int32) (i_2 : Int32) (a_1 : Nat) (a_2 : Nat) (a_3 : Nat) (a_4 : Nat) (a_5 : Nat) (a_6 : Nat) (a_7 : Nat) (a_8 : Nat) (a_9 : Nat) (a_10 : Nat) (a_11 : Nat) (a_12 : Nat) (a_13 : Nat) (i_3 : Int32) (i_4 : Int32) (i_5 : Int32) (i_6 : Int32) (i_7 : Int32) (i_8 : Int32) (i_9 : Int32) (i_10 : Int32) (a_14 : Nat) (a_15 : Nat) (a_16 : Nat) (a_17 : Nat) (a_18 : Nat) (a_19 : Nat) (a_20 : Nat) (a_21 : Nat) (a_22 : Nat) (a_23 : Nat) (f_0 : Nat → Int32) (f_1 : Nat → Int32) (f_2 : Nat → Int32) (a_24 : Nat) (a_25 : Nat) (a_26 : Nat) (a_27 : Nat) (a_28 : Nat) (i_11 : Int32) (i_12 : Int32) (i_13 : Int32) (f_3 : Nat → Int32) (a_29 : Nat) (a_30 : Nat) (i_14 : Int32) (i_15 : Int32) (i_16 : Int32) (f_4 : Nat → Int32) (a_31 : Nat) (a_32 : Nat) (i_17 : Int32) (i_18 : Int32) (i_19 : Int32) (f_5 : Nat → Int32) (h0 : mm_rg i_7 0 9) (h1 : mm_rg i_8 0 3) (h2 : mm_rg i_9 0 6) (h3 : mm_ar f_0 0 8) (h4 : mm_ar f_1 0 9) (h5 : mm_ar f_2 0 9) (h6 : mm_rg i_13 (-2147483648) 210) (h7 : mm_ar f_3 0 9) (h8 : mm_rg i_16 (-2147483648) 210) (h9 : mm_ar f_4 0 9) (h10 : mm_rg i_19 (-2147483648) 210) (h11 : mm_ar f_5 0 9)  : mm_CI l yX11_silent (mm_ws yX11_silent cX11_silent 6 (some .int)) ({ frames := 2, cells := 0, slots := 0, locals := 45 } : Room) G cy sz [(a_0, .inr (11, [.ref a_1, .ref a_2, .ref a_3, .ref a_4, .ref a_5, .ref a_6, .ref a_7, .ref a_8, .ref a_9, .ref a_10, .ref a_11])), (a_3, .inr (10, [.ref a_12, .ref a_13])), (a_12, .inr (0, [.int i_3, .int i_4, .int i_5, .int i_6, .int i_7, .int i_8, .int i_9, .int i_10, .ref a_14, .ref a_15, .ref a_16, .ref a_17, .ref a_18, .ref a_19, .ref a_20, .ref a_21, .ref a_22, .ref a_23])), (a_18, .inl (cy 1, 6, .inl f_0)), (a_19, .inl (cy 1, 48, .inl f_1)), (a_20, .inl (cy 1, 30, .inl f_2)), (a_13, .inl (cy 5, 3, .inr (.inr (.inr (.inr (va_up (va_up (va_up (fun _ => none) 0 (some a_24)) 1 (some a_25)) 2 (some a_26))))))), (a_24, .inr (1, [.ref a_27, .ref a_28, .int i_11, .int i_12, .int i_13])), (a_27, .inl (cy 1, 2100, .inl f_3)), (a_25, .inr (1, [.ref a_29, .ref a_30, .int i_14, .int i_15, .int i_16])), (a_29, .inl (cy 1, 2100, .inl f_4)), (a_26, .inr (1, [.ref a_31, .ref a_32, .int i_17, .int i_18, .int i_19])), (a_31, .inl (cy 1, 2100, .inl f_5))] [.ref a_0, .int i_0, .int i_1, .int i_2] (fun u : Unit => [(a_0, .inr (11, [.ref a_1, .ref a_2, .ref a_3, .ref a_4, .ref a_5, .ref a_6, .ref a_7, .ref a_8, .ref a_9, .ref a_10, .ref a_11])), (a_3, .inr (10, [.ref a_12, .ref a_13])), (a_12, .inr (0, [.int i_3, .int i_4, .int i_5, .int i_6, .int i_7, .int i_8, .int i_9, .int i_10, .ref a_14, .ref a_15, .ref a_16, .ref a_17, .ref a_18, .ref a_19, .ref a_20, .ref a_21, .ref a_22, .ref a_23])), (a_18, .inl (cy 1, 6, .inl f_0)), (a_19, .inl (cy 1, 48, .inl f_1)), (a_20, .inl (cy 1, 30, .inl f_2)), (a_13, .inl (cy 5, 3, .inr (.inr (.inr (.inr (va_up (va_up (va_up (fun _ => none) 0 (some a_24)) 1 (some a_25)) 2 (some a_26))))))), (a_24, .inr (1, [.ref a_27, .ref a_28, .int i_11, .int i_12, .int i_13])), (a_27, .inl (cy 1, 2100, .inl f_3)), (a_25, .inr (1, [.ref a_29, .ref a_30, .int i_14, .int i_15, .int i_16])), (a_29, .inl (cy 1, 2100, .inl f_4)), (a_26, .inr (1, [.ref a_31, .ref a_32, .int i_17, .int i_18, .int i_19])), (a_31, .inl (cy 1, 2100, .inl f_5))]) (fun (r : Int32) (u : Unit) => mm_rg r (-2) 2147483647) 0 0 := by
  refine mm_begin (lv := [(0, .ref a_0), (1, .int i_0), (2, .int i_1), (3, .int i_2)]) (by decide) (Nat.le_of_ble_eq_true rfl) rfl ?_
  intro p e s m below meth c A ls R args Q H locs hRe hQ hAe hx hb hr hlocks hml hown hnm hts hsz hA hS hP hK hD hZ hl
  have hRf : R.frames = 2 := by rw [hRe]
  have hRl : R.locals = 45 := by rw [hRe]
  have hRc : R.cells = 0 := by rw [hRe]
  have hRs : R.slots = 0 := by rw [hRe]
  refine lv_aload_n hx hb dX11_silent_0 rfl (lv_at hl 0 rfl) ?_
  refine lv_iload_n hx hb dX11_silent_1 rfl (lv_at hl 1 rfl) ?_
  refine lv_iload_n hx hb dX11_silent_2 rfl (lv_at hl 2 rfl) ?_
  refine lv_iload_n hx hb dX11_silent_3 rfl (lv_at hl 3 rfl) ?_
  refine mm_finir (va_runV (As := [.int i_0, .int i_1, .int i_2]) (rest := []) ⟨hx, hb, hml, hown, hts⟩ (K371_X11_isReading l G cy H.size a_0 i_0 i_1 i_2 a_1 a_2 a_3 a_4 a_5 a_6 a_7 a_8 a_9 a_10 a_11 a_12 a_13 i_3 i_4 i_5 i_6 i_7 i_8 i_9 i_10 a_14 a_15 a_16 a_17 a_18 a_19 a_20 a_21 a_22 a_23 h1 h2) (cwV 3 hts (mm_gV mm_w825 mm_w826 mm_w827 mm_w2 mm_w828) rfl rfl rfl hd_X11_isReading ⟨by rw [hRf]; exact Nat.le_of_ble_eq_true rfl, by rw [hRl]; exact Nat.le_of_ble_eq_true rfl⟩) (mm_preV hK hZ hS hA hP hD [0, 1, 2] rfl rfl 0 rfl rfl rfl) rfl rfl hl.1 rfl (lv_room (Nat.le_of_ble_eq_true rfl)) dX11_silent_4 ⟨by rw [hRc]; exact Nat.le_of_ble_eq_true rfl, by rw [hRs]; exact Nat.le_of_ble_eq_true rfl⟩) hP hD hS hA [0, 1, 2] rfl (fun _ => rfl) ?_
  clear hP hD hS
  clear H locs
  intro v1 _u H locs hw hP hD hS
  rcases hw with rfl | ⟨rfl, w2, w3, w4⟩
  · refine lv_if_ne (tgt := 13) hx hb dX11_silent_7 (by decide) (fun c5 => ?_) (fun c5 => ?_)
    · have q6 := mm_neL (lo := 1) (mm_ne c5) mm_k0 mm_k0 (by decide) (by decide)
      exact mm_no q6 (by decide)
    · refine lv_bipush (v := (-2)) hx hb dX11_silent_10 (by decide) ?_
      subst hAe
      rw [hQ]
      exact W.iret (v := (-2)) hx hb hr (fun t ht hW => ⟨⟨(-2), (), rfl, (mm_wk mm_km2 (by decide)), by rw [ht]; exact hP, hK.warm hW, hD⟩, hS.F ht⟩) hS.2.2 dX11_silent_12
  · refine lv_if_ne (tgt := 13) hx hb dX11_silent_7 (by decide) (fun c7 => ?_) (fun c7 => ?_)
    · refine lv_iconst (v := 0) hx hb dX11_silent_13 (by decide) ?_
      refine lv_istore (lv' := [(4, .int 0), (0, .ref a_0), (1, .int i_0), (2, .int i_1), (3, .int i_2)]) hx hb dX11_silent_14 hl (by decide) rfl ?_
      clear hl
      clear ls
      intro ls hl
      refine lv_iconst (v := 0) hx hb dX11_silent_16 (by decide) ?_
      refine lv_istore (lv' := [(5, .int 0), (4, .int 0), (0, .ref a_0), (1, .int i_0), (2, .int i_1), (3, .int i_2)]) hx hb dX11_silent_17 hl (by decide) rfl ?_
      clear hl
      clear ls
      intro ls hl
      have L19_189 : ∀ (n : Nat) (x19_5_188 : Int32) (x19_4_189 : Int32), mm_rg x19_5_188 0 8 → mm_rg x19_4_189 0 2147483647 → (8 - x19_5_188.toInt).toNat < n → ∀ (H : Heap) (locs : List Loc), va_P G vwCl [(a_0, .inr (11, [.ref a_1, .ref a_2, .ref a_3, .ref a_4, .ref a_5, .ref a_6, .ref a_7, .ref a_8, .ref a_9, .ref a_10, .ref a_11])), (a_3, .inr (10, [.ref a_12, .ref a_13])), (a_12, .inr (0, [.int i_3, .int i_4, .int i_5, .int i_6, .int i_7, .int i_8, .int i_9, .int i_10, .ref a_14, .ref a_15, .ref a_16, .ref a_17, .ref a_18, .ref a_19, .ref a_20, .ref a_21, .ref a_22, .ref a_23])), (a_18, .inl (cy 1, 6, .inl f_0)), (a_19, .inl (cy 1, 48, .inl f_1)), (a_20, .inl (cy 1, 30, .inl f_2)), (a_13, .inl (cy 5, 3, .inr (.inr (.inr (.inr (va_up (va_up (va_up (fun _ => none) 0 (some a_24)) 1 (some a_25)) 2 (some a_26))))))), (a_24, .inr (1, [.ref a_27, .ref a_28, .int i_11, .int i_12, .int i_13])), (a_27, .inl (cy 1, 2100, .inl f_3)), (a_25, .inr (1, [.ref a_29, .ref a_30, .int i_14, .int i_15, .int i_16])), (a_29, .inl (cy 1, 2100, .inl f_4)), (a_26, .inr (1, [.ref a_31, .ref a_32, .int i_17, .int i_18, .int i_19])), (a_31, .inl (cy 1, 2100, .inl f_5))] H → va_D A [(a_0, .inr (11, [.ref a_1, .ref a_2, .ref a_3, .ref a_4, .ref a_5, .ref a_6, .ref a_7, .ref a_8, .ref a_9, .ref a_10, .ref a_11])), (a_3, .inr (10, [.ref a_12, .ref a_13])), (a_12, .inr (0, [.int i_3, .int i_4, .int i_5, .int i_6, .int i_7, .int i_8, .int i_9, .int i_10, .ref a_14, .ref a_15, .ref a_16, .ref a_17, .ref a_18, .ref a_19, .ref a_20, .ref a_21, .ref a_22, .ref a_23])), (a_18, .inl (cy 1, 6, .inl f_0)), (a_19, .inl (cy 1, 48, .inl f_1)), (a_20, .inl (cy 1, 30, .inl f_2)), (a_13, .inl (cy 5, 3, .inr (.inr (.inr (.inr (va_up (va_up (va_up (fun _ => none) 0 (some a_24)) 1 (some a_25)) 2 (some a_26))))))), (a_24, .inr (1, [.ref a_27, .ref a_28, .int i_11, .int i_12, .int i_13])), (a_27, .inl (cy 1, 2100, .inl f_3)), (a_25, .inr (1, [.ref a_29, .ref a_30, .int i_14, .int i_15, .int i_16])), (a_29, .inl (cy 1, 2100, .inl f_4)), (a_26, .inr (1, [.ref a_31, .ref a_32, .int i_17, .int i_18, .int i_19])), (a_31, .inl (cy 1, 2100, .inl f_5))] → va_S A s.heap H locs → ∀ (ls : Array Slot), lv_has ls 6 [(5, .int x19_5_188), (4, .int x19_4_189), (0, .ref a_0), (1, .int i_0), (2, .int i_1), (3, .int i_2)] → W p l e R s m args below meth c H locs 0 0 Q (F0 m 19 ls []) := by
        intro n
        induction n with
        | zero => intro x19_5_188 x19_4_189 rx19_5_188 rx19_4_189 hm; exact absurd hm (Nat.not_lt_zero _)
        | succ n ih19 =>
          intro x19_5_188 x19_4_189 rx19_5_188 rx19_4_189 hm19 H locs hP hD hS ls hl
          refine lv_iload hx hb dX11_silent_19 (lv_at hl 0 rfl) ?_
          refine lv_aload_n hx hb dX11_silent_21 rfl (lv_at hl 2 rfl) ?_
          refine va_get (D := G) (ci := 11) (v := .ref a_3) (C := RX11) (T := TX11) (N := 11) hx hb hts (mm_i inlX11) hown hK.1 hP 0 rfl rfl 2 (by decide) (mm_h hts mm_w24) (fun _ h9 => h9) rfl dX11_silent_22 ?_
          refine va_get (D := G) (ci := 10) (v := .ref a_12) (C := RX10) (T := TX10) (N := 2) hx hb hts (mm_i inlX10) hown hK.1 hP 1 rfl rfl 0 (by decide) (mm_h hts mm_w199) (fun _ h9 => h9) rfl dX11_silent_25 ?_
          refine va_get (D := G) (ci := 0) (v := .ref a_18) (C := RX0) (T := TX0) (N := 18) hx hb hts (mm_i inlX0) hown hK.1 hP 2 rfl rfl 12 (by decide) (mm_h hts mm_w599) (fun _ h9 => h9) rfl dX11_silent_28 ?_
          refine lv_iload_n hx hb dX11_silent_31 rfl (lv_at hl 5 rfl) ?_
          refine va_iald hx hb hK.1 hP 3 1 rfl rfl (mm_in w4 (by decide)) dX11_silent_32 ?_
          refine lv_topi (fun v191 ev191 => ?_)
          have rv191 : mm_rg v191 0 8 := mm_eqv ev191 (h3 _)
          refine lv_icmp_ge (tgt := 86) hx hb dX11_silent_33 (by decide) (fun c192 => ?_) (fun c192 => ?_)
          · refine lv_iload hx hb dX11_silent_86 (lv_at hl 1 rfl) ?_
            subst hAe
            rw [hQ]
            exact W.iret (v := x19_4_189) hx hb hr (fun t ht hW => ⟨⟨x19_4_189, (), rfl, (mm_wk rx19_4_189 (by decide)), by rw [ht]; exact hP, hK.warm hW, hD⟩, hS.F ht⟩) hS.2.2 dX11_silent_88
          · have q193 := mm_ltL (h := 7) (mm_nle c192) rx19_5_188 rv191 (by decide)
            have q194 := mm_ltR (lo := 1) (mm_nle c192) rx19_5_188 rv191 (by decide)
            refine lv_aload_n hx hb dX11_silent_36 rfl (lv_at hl 2 rfl) ?_
            refine va_get (D := G) (ci := 11) (v := .ref a_3) (C := RX11) (T := TX11) (N := 11) hx hb hts (mm_i inlX11) hown hK.1 hP 0 rfl rfl 2 (by decide) (mm_h hts mm_w24) (fun _ h9 => h9) rfl dX11_silent_37 ?_
            refine lv_iload_n hx hb dX11_silent_40 rfl (lv_at hl 3 rfl) ?_
            refine lv_iload_n hx hb dX11_silent_41 rfl (lv_at hl 4 rfl) ?_
            refine lv_aload_n hx hb dX11_silent_42 rfl (lv_at hl 2 rfl) ?_
            refine va_get (D := G) (ci := 11) (v := .ref a_3) (C := RX11) (T := TX11) (N := 11) hx hb hts (mm_i inlX11) hown hK.1 hP 0 rfl rfl 2 (by decide) (mm_h hts mm_w24) (fun _ h9 => h9) rfl dX11_silent_43 ?_
            refine va_get (D := G) (ci := 10) (v := .ref a_12) (C := RX10) (T := TX10) (N := 2) hx hb hts (mm_i inlX10) hown hK.1 hP 1 rfl rfl 0 (by decide) (mm_h hts mm_w199) (fun _ h9 => h9) rfl dX11_silent_46 ?_
            refine lv_iload_n hx hb dX11_silent_49 rfl (lv_at hl 5 rfl) ?_
            refine lv_iload hx hb dX11_silent_50 (lv_at hl 0 rfl) ?_
            refine mm_finir (va_runV (As := [.int i_2, .int x19_5_188]) (rest := [.int i_1, .int i_0, .ref a_3]) ⟨hx, hb, hml, hown, hts⟩ (K348_X0_wordAt l G cy H.size a_12 i_2 x19_5_188 i_3 i_4 i_5 i_6 i_7 i_8 i_9 i_10 a_14 a_15 a_16 a_17 a_18 a_19 a_20 a_21 a_22 a_23 f_1 w4 q193 h4) (cwV 2 hts (mm_gV mm_w605 mm_w606 mm_w607 mm_w28 mm_w608) rfl rfl rfl hd_X0_wordAt ⟨by rw [hRf]; exact Nat.le_of_ble_eq_true rfl, by rw [hRl]; exact Nat.le_of_ble_eq_true rfl⟩) (mm_preV hK hZ hS hA hP hD [2, 4] rfl rfl 2 rfl rfl rfl) rfl rfl hl.1 rfl (lv_room (Nat.le_of_ble_eq_true rfl)) dX11_silent_52 ⟨by rw [hRc]; exact Nat.le_of_ble_eq_true rfl, by rw [hRs]; exact Nat.le_of_ble_eq_true rfl⟩) hP hD hS hA [2, 4] rfl (fun _ => rfl) ?_
            clear hP hD hS
            clear H locs
            intro v195 _u H locs hw hP hD hS
            have w196 := hw
            refine mm_finir (va_runV (As := [.int i_0, .int i_1, .int v195]) (rest := []) ⟨hx, hb, hml, hown, hts⟩ (K355_X10_meaning l G cy H.size a_3 i_0 i_1 v195 a_12 a_13 i_3 i_4 i_5 i_6 i_7 i_8 i_9 i_10 a_14 a_15 a_16 a_17 a_18 a_19 a_20 a_21 a_22 a_23 f_2 a_24 a_25 a_26 a_27 a_28 i_11 i_12 i_13 f_3 a_29 a_30 i_14 i_15 i_16 f_4 a_31 a_32 i_17 i_18 i_19 f_5 w2 (mm_wk w3 (by decide)) w196 h5 h6 h7 h8 h9 h10 h11) (cwV 3 hts (mm_gV mm_w665 mm_w666 mm_w667 mm_w23 mm_w668) rfl rfl rfl hd_X10_meaning ⟨by rw [hRf]; exact Nat.le_of_ble_eq_true rfl, by rw [hRl]; exact Nat.le_of_ble_eq_true rfl⟩) (mm_preV hK hZ hS hA hP hD [1, 2, 5, 6, 7, 8, 9, 10, 11, 12] rfl rfl 1 rfl rfl rfl) rfl rfl hl.1 rfl (lv_room (Nat.le_of_ble_eq_true rfl)) dX11_silent_55 ⟨by rw [hRc]; exact Nat.le_of_ble_eq_true rfl, by rw [hRs]; exact Nat.le_of_ble_eq_true rfl⟩) hP hD hS hA [1, 2, 5, 6, 7, 8, 9, 10, 11, 12] rfl (fun _ => rfl) ?_
            clear hP hD hS
            clear H locs
            intro v197 _u H locs hw hP hD hS
            have w198 := hw
            refine lv_aload_n hx hb dX11_silent_58 rfl (lv_at hl 2 rfl) ?_
            refine va_get (D := G) (ci := 11) (v := .ref a_3) (C := RX11) (T := TX11) (N := 11) hx hb hts (mm_i inlX11) hown hK.1 hP 0 rfl rfl 2 (by decide) (mm_h hts mm_w24) (fun _ h9 => h9) rfl dX11_silent_59 ?_
            refine va_get (D := G) (ci := 10) (v := .ref a_12) (C := RX10) (T := TX10) (N := 2) hx hb hts (mm_i inlX10) hown hK.1 hP 1 rfl rfl 0 (by decide) (mm_h hts mm_w199) (fun _ h9 => h9) rfl dX11_silent_62 ?_
            refine va_get (D := G) (ci := 0) (v := .int i_7) (C := RX0) (T := TX0) (N := 18) hx hb hts (mm_i inlX0) hown hK.1 hP 2 rfl rfl 4 (by decide) (mm_h hts mm_w580) (fun _ h9 => h9) rfl dX11_silent_65 ?_
            refine lv_icmp_ne (tgt := 80) hx hb dX11_silent_68 (by decide) (fun c199 => ?_) (fun c199 => ?_)
            · obtain ⟨v200, ev200⟩ : ∃ y : Int32, y = x19_5_188 + 1 := ⟨_, rfl⟩
              refine lv_iinc (v := v200) (lv' := [(5, .int v200), (4, .int x19_4_189), (0, .ref a_0), (1, .int i_0), (2, .int i_1), (3, .int i_2)]) hx hb dX11_silent_80 hl (k := 0) rfl (by rw [ev200]; rfl) (by decide) rfl ?_
              clear hl
              clear ls
              intro ls hl
              have rv200 : mm_rg v200 1 8 := mm_add ev200 q193 mm_k1 (by decide) (by decide)
              have tv200 := mm_addEc ev200 q193 mm_k1 (by decide) (k := 1) (by decide)
              refine lv_goto (tgt := 19) hx hb dX11_silent_83 (by decide) ?_
              exact ih19 v200 x19_4_189 (mm_wk rv200 (by decide)) rx19_4_189 (mm_mu hm19 tv200 (by decide) (rv200).2 (by decide)) H locs hP hD hS ls (lv_sub hl [0, 1, 2, 3, 4, 5] rfl)
            · refine lv_iload hx hb dX11_silent_71 (lv_at hl 1 rfl) ?_
              refine lv_iconst (v := 1) hx hb dX11_silent_73 (by decide) ?_
              refine lv_iload hx hb dX11_silent_74 (lv_at hl 0 rfl) ?_
              refine lv_ishl hx hb dX11_silent_76 ?_
              refine lv_topi (fun v201 ev201 => ?_)
              have rv201 : mm_rg v201 1 128 := mm_shl1 ev201 q193 (by decide)
              refine lv_ior hx hb dX11_silent_77 ?_
              refine lv_topi (fun v202 ev202 => ?_)
              have rv202 : mm_rg v202 0 2147483647 := mm_or ev202 31 rx19_4_189 rv201 (by decide)
              refine lv_istore (lv' := [(4, .int v202), (5, .int x19_5_188), (0, .ref a_0), (1, .int i_0), (2, .int i_1), (3, .int i_2)]) hx hb dX11_silent_78 hl (by decide) rfl ?_
              clear hl
              clear ls
              intro ls hl
              obtain ⟨v203, ev203⟩ : ∃ y : Int32, y = x19_5_188 + 1 := ⟨_, rfl⟩
              refine lv_iinc (v := v203) (lv' := [(5, .int v203), (4, .int v202), (0, .ref a_0), (1, .int i_0), (2, .int i_1), (3, .int i_2)]) hx hb dX11_silent_80 hl (k := 1) rfl (by rw [ev203]; rfl) (by decide) rfl ?_
              clear hl
              clear ls
              intro ls hl
              have rv203 : mm_rg v203 1 8 := mm_add ev203 q193 mm_k1 (by decide) (by decide)
              have tv203 := mm_addEc ev203 q193 mm_k1 (by decide) (k := 1) (by decide)
              refine lv_goto (tgt := 19) hx hb dX11_silent_83 (by decide) ?_
              exact ih19 v203 v202 (mm_wk rv203 (by decide)) rv202 (mm_mu hm19 tv203 (by decide) (rv203).2 (by decide)) H locs hP hD hS ls (lv_sub hl [0, 1, 2, 3, 4, 5] rfl)
      exact L19_189 _ 0 0 (mm_wk mm_k0 (by decide)) (mm_wk mm_k0 (by decide)) (Nat.lt_succ_self _) H locs hP hD hS ls (lv_sub hl [0, 1, 2, 3, 4, 5] rfl)
    · exact mm_eqN c7.symm mm_k0 mm_k1 (by decide)

