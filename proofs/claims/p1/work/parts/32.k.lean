theorem dX11_fault_0 : decode cX11_fault 0 = .ok (.iload_n 1, 1) := by decide +kernel
theorem dX11_fault_1 : decode cX11_fault 1 = .ok (.ifCond .ne 11, 3) := by decide +kernel
theorem dX11_fault_4 : decode cX11_fault 4 = .ok (.aload_n 0, 1) := by decide +kernel
theorem dX11_fault_5 : decode cX11_fault 5 = .ok (.getfield 21, 3) := by decide +kernel
theorem dX11_fault_8 : decode cX11_fault 8 = .ok (.getfield 115, 3) := by decide +kernel
theorem dX11_fault_11 : decode cX11_fault 11 = .ok (.ireturn, 1) := by decide +kernel
theorem dX11_fault_12 : decode cX11_fault 12 = .ok (.iload_n 1, 1) := by decide +kernel
theorem dX11_fault_13 : decode cX11_fault 13 = .ok (.iconst 1, 1) := by decide +kernel
theorem dX11_fault_14 : decode cX11_fault 14 = .ok (.if_icmp .ne 13, 3) := by decide +kernel
theorem dX11_fault_17 : decode cX11_fault 17 = .ok (.aload_n 0, 1) := by decide +kernel
theorem dX11_fault_18 : decode cX11_fault 18 = .ok (.getfield 21, 3) := by decide +kernel
theorem dX11_fault_21 : decode cX11_fault 21 = .ok (.getfield 118, 3) := by decide +kernel
theorem dX11_fault_24 : decode cX11_fault 24 = .ok (.goto 4, 3) := by decide +kernel
theorem dX11_fault_27 : decode cX11_fault 27 = .ok (.iconst (-1), 1) := by decide +kernel
theorem dX11_fault_28 : decode cX11_fault 28 = .ok (.ireturn, 1) := by decide +kernel
theorem dX11_isLand_0 : decode cX11_isLand 0 = .ok (.iload_n 1, 1) := by decide +kernel
theorem dX11_isLand_1 : decode cX11_isLand 1 = .ok (.ifCond .lt 21, 3) := by decide +kernel
theorem dX11_isLand_4 : decode cX11_isLand 4 = .ok (.iload_n 1, 1) := by decide +kernel
theorem dX11_isLand_5 : decode cX11_isLand 5 = .ok (.aload_n 0, 1) := by decide +kernel
theorem dX11_isLand_6 : decode cX11_isLand 6 = .ok (.getfield 28, 3) := by decide +kernel
theorem dX11_isLand_9 : decode cX11_isLand 9 = .ok (.getfield 109, 3) := by decide +kernel
theorem dX11_isLand_12 : decode cX11_isLand 12 = .ok (.getfield 309, 3) := by decide +kernel
theorem dX11_isLand_15 : decode cX11_isLand 15 = .ok (.if_icmp .ge 7, 3) := by decide +kernel
theorem dX11_isLand_22 : decode cX11_isLand 22 = .ok (.iconst 0, 1) := by decide +kernel
theorem dX11_isLand_23 : decode cX11_isLand 23 = .ok (.ireturn, 1) := by decide +kernel
theorem dX11_isSense_0 : decode cX11_isSense 0 = .ok (.iload_n 1, 1) := by decide +kernel
theorem dX11_isSense_1 : decode cX11_isSense 1 = .ok (.ifCond .lt 21, 3) := by decide +kernel
theorem dX11_isSense_4 : decode cX11_isSense 4 = .ok (.iload_n 1, 1) := by decide +kernel
theorem dX11_isSense_5 : decode cX11_isSense 5 = .ok (.aload_n 0, 1) := by decide +kernel
theorem dX11_isSense_6 : decode cX11_isSense 6 = .ok (.getfield 28, 3) := by decide +kernel
theorem dX11_isSense_9 : decode cX11_isSense 9 = .ok (.getfield 109, 3) := by decide +kernel
theorem dX11_isSense_12 : decode cX11_isSense 12 = .ok (.getfield 180, 3) := by decide +kernel
theorem dX11_isSense_15 : decode cX11_isSense 15 = .ok (.if_icmp .ge 7, 3) := by decide +kernel
theorem dX11_isSense_22 : decode cX11_isSense 22 = .ok (.iconst 0, 1) := by decide +kernel
theorem dX11_isSense_23 : decode cX11_isSense 23 = .ok (.ireturn, 1) := by decide +kernel
theorem dX11_isText_0 : decode cX11_isText 0 = .ok (.iload_n 1, 1) := by decide +kernel
theorem dX11_isText_1 : decode cX11_isText 1 = .ok (.ifCond .lt 21, 3) := by decide +kernel
theorem dX11_isText_4 : decode cX11_isText 4 = .ok (.iload_n 1, 1) := by decide +kernel
theorem dX11_isText_5 : decode cX11_isText 5 = .ok (.aload_n 0, 1) := by decide +kernel
theorem dX11_isText_6 : decode cX11_isText 6 = .ok (.getfield 28, 3) := by decide +kernel
theorem dX11_isText_9 : decode cX11_isText 9 = .ok (.getfield 109, 3) := by decide +kernel
theorem dX11_isText_12 : decode cX11_isText 12 = .ok (.getfield 251, 3) := by decide +kernel
theorem dX11_isText_15 : decode cX11_isText 15 = .ok (.if_icmp .ge 7, 3) := by decide +kernel
theorem dX11_isText_22 : decode cX11_isText 22 = .ok (.iconst 0, 1) := by decide +kernel
theorem dX11_isText_23 : decode cX11_isText 23 = .ok (.ireturn, 1) := by decide +kernel
theorem dX11_may_0 : decode cX11_may 0 = .ok (.aload_n 0, 1) := by decide +kernel
theorem dX11_may_1 : decode cX11_may 1 = .ok (.iload_n 1, 1) := by decide +kernel
theorem dX11_may_2 : decode cX11_may 2 = .ok (.invokevirtual 145, 3) := by decide +kernel
theorem dX11_may_5 : decode cX11_may 5 = .ok (.ifCond .eq 11, 3) := by decide +kernel
theorem dX11_may_16 : decode cX11_may 16 = .ok (.bipush (-2), 2) := by decide +kernel
theorem dX11_may_18 : decode cX11_may 18 = .ok (.ireturn, 1) := by decide +kernel
theorem dX11_means_0 : decode cX11_means 0 = .ok (.aload_n 0, 1) := by decide +kernel
theorem dX11_means_1 : decode cX11_means 1 = .ok (.iload_n 1, 1) := by decide +kernel
theorem dX11_means_2 : decode cX11_means 2 = .ok (.invokevirtual 145, 3) := by decide +kernel
theorem dX11_means_5 : decode cX11_means 5 = .ok (.ifCond .eq 18, 3) := by decide +kernel
theorem dX11_means_23 : decode cX11_means 23 = .ok (.bipush (-2), 2) := by decide +kernel
theorem dX11_means_25 : decode cX11_means 25 = .ok (.ireturn, 1) := by decide +kernel
theorem dX11_mute_0 : decode cX11_mute 0 = .ok (.aload_n 0, 1) := by decide +kernel
theorem dX11_mute_1 : decode cX11_mute 1 = .ok (.iload_n 1, 1) := by decide +kernel
theorem dX11_mute_2 : decode cX11_mute 2 = .ok (.invokevirtual 145, 3) := by decide +kernel
theorem dX11_mute_5 : decode cX11_mute 5 = .ok (.ifCond .ne 6, 3) := by decide +kernel
theorem dX11_mute_8 : decode cX11_mute 8 = .ok (.bipush (-2), 2) := by decide +kernel
theorem dX11_mute_10 : decode cX11_mute 10 = .ok (.ireturn, 1) := by decide +kernel
theorem dX11_muted_0 : decode cX11_muted 0 = .ok (.aload_n 0, 1) := by decide +kernel
theorem dX11_muted_1 : decode cX11_muted 1 = .ok (.iload_n 1, 1) := by decide +kernel
theorem dX11_muted_2 : decode cX11_muted 2 = .ok (.invokevirtual 145, 3) := by decide +kernel
theorem dX11_muted_5 : decode cX11_muted 5 = .ok (.ifCond .eq 11, 3) := by decide +kernel
theorem dX11_muted_16 : decode cX11_muted 16 = .ok (.bipush (-2), 2) := by decide +kernel
theorem dX11_muted_18 : decode cX11_muted 18 = .ok (.ireturn, 1) := by decide +kernel
theorem dX11_often_0 : decode cX11_often 0 = .ok (.aload_n 0, 1) := by decide +kernel
theorem dX11_often_1 : decode cX11_often 1 = .ok (.iload_n 1, 1) := by decide +kernel
theorem dX11_often_2 : decode cX11_often 2 = .ok (.invokevirtual 145, 3) := by decide +kernel
theorem dX11_often_5 : decode cX11_often 5 = .ok (.ifCond .eq 19, 3) := by decide +kernel
theorem dX11_often_24 : decode cX11_often 24 = .ok (.bipush (-2), 2) := by decide +kernel
theorem dX11_often_26 : decode cX11_often 26 = .ok (.ireturn, 1) := by decide +kernel
theorem dX11_round_0 : decode cX11_round 0 = .ok (.aload_n 0, 1) := by decide +kernel
theorem dX11_round_1 : decode cX11_round 1 = .ok (.iload_n 1, 1) := by decide +kernel
theorem dX11_round_2 : decode cX11_round 2 = .ok (.invokevirtual 145, 3) := by decide +kernel
theorem dX11_round_5 : decode cX11_round 5 = .ok (.ifCond .eq 14, 3) := by decide +kernel
theorem dX11_round_19 : decode cX11_round 19 = .ok (.bipush (-2), 2) := by decide +kernel
theorem dX11_round_21 : decode cX11_round 21 = .ok (.ireturn, 1) := by decide +kernel
theorem dX11_rule_0 : decode cX11_rule 0 = .ok (.aload_n 0, 1) := by decide +kernel
theorem dX11_rule_1 : decode cX11_rule 1 = .ok (.iload_n 1, 1) := by decide +kernel
theorem dX11_rule_2 : decode cX11_rule 2 = .ok (.invokevirtual 145, 3) := by decide +kernel
theorem dX11_rule_5 : decode cX11_rule 5 = .ok (.ifCond .eq 31, 3) := by decide +kernel
theorem dX11_rule_36 : decode cX11_rule 36 = .ok (.bipush (-2), 2) := by decide +kernel
theorem dX11_rule_38 : decode cX11_rule 38 = .ok (.ireturn, 1) := by decide +kernel
theorem dX11_says_0 : decode cX11_says 0 = .ok (.aload_n 0, 1) := by decide +kernel
theorem dX11_says_1 : decode cX11_says 1 = .ok (.iload_n 1, 1) := by decide +kernel
theorem dX11_says_2 : decode cX11_says 2 = .ok (.invokevirtual 145, 3) := by decide +kernel
theorem dX11_says_5 : decode cX11_says 5 = .ok (.ifCond .eq 18, 3) := by decide +kernel
theorem dX11_says_23 : decode cX11_says 23 = .ok (.bipush (-2), 2) := by decide +kernel
theorem dX11_says_25 : decode cX11_says 25 = .ok (.ireturn, 1) := by decide +kernel
theorem dX11_sense_0 : decode cX11_sense 0 = .ok (.aload_n 0, 1) := by decide +kernel
theorem dX11_sense_1 : decode cX11_sense 1 = .ok (.iload_n 1, 1) := by decide +kernel
theorem dX11_sense_2 : decode cX11_sense 2 = .ok (.invokevirtual 121, 3) := by decide +kernel
theorem dX11_sense_5 : decode cX11_sense 5 = .ok (.ifCond .eq 10, 3) := by decide +kernel
theorem dX11_sense_15 : decode cX11_sense 15 = .ok (.bipush (-2), 2) := by decide +kernel
theorem dX11_sense_17 : decode cX11_sense 17 = .ok (.ireturn, 1) := by decide +kernel
theorem dX11_stays_0 : decode cX11_stays 0 = .ok (.aload_n 0, 1) := by decide +kernel
theorem dX11_stays_1 : decode cX11_stays 1 = .ok (.iload_n 1, 1) := by decide +kernel
theorem dX11_stays_2 : decode cX11_stays 2 = .ok (.invokevirtual 145, 3) := by decide +kernel
theorem dX11_stays_5 : decode cX11_stays 5 = .ok (.ifCond .eq 10, 3) := by decide +kernel
theorem dX11_stays_15 : decode cX11_stays 15 = .ok (.bipush (-2), 2) := by decide +kernel
theorem dX11_stays_17 : decode cX11_stays 17 = .ok (.ireturn, 1) := by decide +kernel
theorem dX11_when_0 : decode cX11_when 0 = .ok (.aload_n 0, 1) := by decide +kernel
theorem dX11_when_1 : decode cX11_when 1 = .ok (.iload_n 1, 1) := by decide +kernel
theorem dX11_when_2 : decode cX11_when 2 = .ok (.invokevirtual 145, 3) := by decide +kernel
theorem dX11_when_5 : decode cX11_when 5 = .ok (.ifCond .eq 27, 3) := by decide +kernel
theorem dX11_when_32 : decode cX11_when 32 = .ok (.bipush (-2), 2) := by decide +kernel
theorem dX11_when_34 : decode cX11_when 34 = .ok (.ireturn, 1) := by decide +kernel
theorem dX11_word_0 : decode cX11_word 0 = .ok (.aload_n 0, 1) := by decide +kernel
theorem dX11_word_1 : decode cX11_word 1 = .ok (.iload_n 1, 1) := by decide +kernel
theorem dX11_word_2 : decode cX11_word 2 = .ok (.invokevirtual 135, 3) := by decide +kernel
theorem dX11_word_5 : decode cX11_word 5 = .ok (.ifCond .ne 6, 3) := by decide +kernel
theorem dX11_word_8 : decode cX11_word 8 = .ok (.bipush (-2), 2) := by decide +kernel
theorem dX11_word_10 : decode cX11_word 10 = .ok (.ireturn, 1) := by decide +kernel
theorem dX12_book_0 : decode cX12_book 0 = .ok (.aload_n 0, 1) := by decide +kernel
theorem dX12_book_1 : decode cX12_book 1 = .ok (.iconst 0, 1) := by decide +kernel
theorem dX12_book_2 : decode cX12_book 2 = .ok (.putfield 77, 3) := by decide +kernel
theorem dX12_book_5 : decode cX12_book 5 = .ok (.aload_n 0, 1) := by decide +kernel
theorem dX12_book_6 : decode cX12_book 6 = .ok (.invokevirtual 216, 3) := by decide +kernel
theorem dX12_book_9 : decode cX12_book 9 = .ok (.aload_n 0, 1) := by decide +kernel
theorem dX12_book_10 : decode cX12_book 10 = .ok (.invokevirtual 219, 3) := by decide +kernel
theorem dX12_book_13 : decode cX12_book 13 = .ok (.aload_n 0, 1) := by decide +kernel
theorem dX12_book_14 : decode cX12_book 14 = .ok (.invokevirtual 222, 3) := by decide +kernel
theorem dX12_book_17 : decode cX12_book 17 = .ok (.ifCond .eq 87, 3) := by decide +kernel
theorem dX12_book_20 : decode cX12_book 20 = .ok (.aload_n 0, 1) := by decide +kernel
theorem dX12_book_21 : decode cX12_book 21 = .ok (.getfield 118, 3) := by decide +kernel
theorem dX12_book_24 : decode cX12_book 24 = .ok (.ifCond .eq 80, 3) := by decide +kernel
theorem dX12_book_104 : decode cX12_book 104 = .ok (.aload_n 0, 1) := by decide +kernel
theorem dX12_book_105 : decode cX12_book 105 = .ok (.invokevirtual 241, 3) := by decide +kernel
theorem dX12_book_108 : decode cX12_book 108 = .ok (.aload_n 0, 1) := by decide +kernel
theorem dX12_book_109 : decode cX12_book 109 = .ok (.getfield 129, 3) := by decide +kernel
theorem dX12_book_112 : decode cX12_book 112 = .ok (.ifCond .eq 6, 3) := by decide +kernel
theorem dX12_book_118 : decode cX12_book 118 = .ok (.aload_n 0, 1) := by decide +kernel
theorem dX12_book_119 : decode cX12_book 119 = .ok (.iconst 4, 1) := by decide +kernel
theorem dX12_book_120 : decode cX12_book 120 = .ok (.iconst 0, 1) := by decide +kernel
theorem dX12_book_121 : decode cX12_book 121 = .ok (.invokevirtual 244, 3) := by decide +kernel
theorem dX12_book_124 : decode cX12_book 124 = .ok (.aload_n 0, 1) := by decide +kernel
theorem dX12_book_125 : decode cX12_book 125 = .ok (.getfield 31, 3) := by decide +kernel
theorem dX12_book_128 : decode cX12_book 128 = .ok (.iconst 0, 1) := by decide +kernel
theorem dX12_book_129 : decode cX12_book 129 = .ok (.iaload, 1) := by decide +kernel
theorem dX12_book_130 : decode cX12_book 130 = .ok (.ireturn, 1) := by decide +kernel
theorem dX12_copyBook_0 : decode cX12_copyBook 0 = .ok (.aload_n 0, 1) := by decide +kernel
theorem dX12_copyBook_1 : decode cX12_copyBook 1 = .ok (.getfield 31, 3) := by decide +kernel
theorem dX12_copyBook_4 : decode cX12_copyBook 4 = .ok (.iconst 1, 1) := by decide +kernel
theorem dX12_copyBook_5 : decode cX12_copyBook 5 = .ok (.iload_n 1, 1) := by decide +kernel
theorem dX12_copyBook_6 : decode cX12_copyBook 6 = .ok (.iload_n 2, 1) := by decide +kernel
theorem dX12_copyBook_7 : decode cX12_copyBook 7 = .ok (.invokestatic 247, 3) := by decide +kernel
theorem dX12_copyBook_10 : decode cX12_copyBook 10 = .ok (.aload_n 0, 1) := by decide +kernel
theorem dX12_copyBook_11 : decode cX12_copyBook 11 = .ok (.getfield 34, 3) := by decide +kernel
theorem dX12_copyBook_14 : decode cX12_copyBook 14 = .ok (.bipush 6, 2) := by decide +kernel
theorem dX12_copyBook_16 : decode cX12_copyBook 16 = .ok (.iload_n 1, 1) := by decide +kernel
theorem dX12_copyBook_17 : decode cX12_copyBook 17 = .ok (.iload_n 2, 1) := by decide +kernel
theorem dX12_copyBook_18 : decode cX12_copyBook 18 = .ok (.invokestatic 247, 3) := by decide +kernel
theorem dX12_copyBook_21 : decode cX12_copyBook 21 = .ok (.aload_n 0, 1) := by decide +kernel
theorem dX12_copyBook_22 : decode cX12_copyBook 22 = .ok (.getfield 37, 3) := by decide +kernel
theorem dX12_copyBook_25 : decode cX12_copyBook 25 = .ok (.bipush 18, 2) := by decide +kernel
theorem dX12_copyBook_27 : decode cX12_copyBook 27 = .ok (.iload_n 1, 1) := by decide +kernel
theorem dX12_copyBook_28 : decode cX12_copyBook 28 = .ok (.iload_n 2, 1) := by decide +kernel
theorem dX12_copyBook_29 : decode cX12_copyBook 29 = .ok (.invokestatic 247, 3) := by decide +kernel
theorem dX12_copyBook_32 : decode cX12_copyBook 32 = .ok (.aload_n 0, 1) := by decide +kernel
theorem dX12_copyBook_33 : decode cX12_copyBook 33 = .ok (.getfield 40, 3) := by decide +kernel
theorem dX12_copyBook_36 : decode cX12_copyBook 36 = .ok (.iconst 3, 1) := by decide +kernel
theorem dX12_copyBook_37 : decode cX12_copyBook 37 = .ok (.iload_n 1, 1) := by decide +kernel
theorem dX12_copyBook_38 : decode cX12_copyBook 38 = .ok (.iload_n 2, 1) := by decide +kernel
theorem dX12_copyBook_39 : decode cX12_copyBook 39 = .ok (.invokestatic 247, 3) := by decide +kernel
theorem dX12_copyBook_42 : decode cX12_copyBook 42 = .ok (.aload_n 0, 1) := by decide +kernel
theorem dX12_copyBook_43 : decode cX12_copyBook 43 = .ok (.getfield 43, 3) := by decide +kernel
theorem dX12_copyBook_46 : decode cX12_copyBook 46 = .ok (.sipush 210, 3) := by decide +kernel
theorem dX12_copyBook_49 : decode cX12_copyBook 49 = .ok (.iload_n 1, 1) := by decide +kernel
theorem dX12_copyBook_50 : decode cX12_copyBook 50 = .ok (.iload_n 2, 1) := by decide +kernel
theorem dX12_copyBook_51 : decode cX12_copyBook 51 = .ok (.invokestatic 247, 3) := by decide +kernel
theorem dX12_copyBook_54 : decode cX12_copyBook 54 = .ok (.aload_n 0, 1) := by decide +kernel
theorem dX12_copyBook_55 : decode cX12_copyBook 55 = .ok (.getfield 46, 3) := by decide +kernel
theorem dX12_copyBook_58 : decode cX12_copyBook 58 = .ok (.bipush 6, 2) := by decide +kernel
theorem dX12_copyBook_60 : decode cX12_copyBook 60 = .ok (.iload_n 1, 1) := by decide +kernel
theorem dX12_copyBook_61 : decode cX12_copyBook 61 = .ok (.iload_n 2, 1) := by decide +kernel
theorem dX12_copyBook_62 : decode cX12_copyBook 62 = .ok (.invokestatic 247, 3) := by decide +kernel
theorem dX12_copyBook_65 : decode cX12_copyBook 65 = .ok (.aload_n 0, 1) := by decide +kernel
theorem dX12_copyBook_66 : decode cX12_copyBook 66 = .ok (.getfield 49, 3) := by decide +kernel
theorem dX12_copyBook_69 : decode cX12_copyBook 69 = .ok (.bipush 48, 2) := by decide +kernel
theorem dX12_copyBook_71 : decode cX12_copyBook 71 = .ok (.iload_n 1, 1) := by decide +kernel
theorem dX12_copyBook_72 : decode cX12_copyBook 72 = .ok (.iload_n 2, 1) := by decide +kernel
theorem dX12_copyBook_73 : decode cX12_copyBook 73 = .ok (.invokestatic 247, 3) := by decide +kernel
theorem dX12_copyBook_76 : decode cX12_copyBook 76 = .ok (.aload_n 0, 1) := by decide +kernel
theorem dX12_copyBook_77 : decode cX12_copyBook 77 = .ok (.getfield 52, 3) := by decide +kernel
theorem dX12_copyBook_80 : decode cX12_copyBook 80 = .ok (.bipush 90, 2) := by decide +kernel
theorem dX12_copyBook_82 : decode cX12_copyBook 82 = .ok (.iload_n 1, 1) := by decide +kernel
theorem dX12_copyBook_83 : decode cX12_copyBook 83 = .ok (.iload_n 2, 1) := by decide +kernel
theorem dX12_copyBook_84 : decode cX12_copyBook 84 = .ok (.invokestatic 247, 3) := by decide +kernel
theorem dX12_copyBook_87 : decode cX12_copyBook 87 = .ok (.return_, 1) := by decide +kernel
theorem dX12_copyRow_0 : decode cX12_copyRow 0 = .ok (.iconst 0, 1) := by decide +kernel
theorem dX12_copyRow_1 : decode cX12_copyRow 1 = .ok (.istore 4, 2) := by decide +kernel
theorem dX12_copyRow_3 : decode cX12_copyRow 3 = .ok (.iload 4, 2) := by decide +kernel
theorem dX12_copyRow_5 : decode cX12_copyRow 5 = .ok (.iload_n 1, 1) := by decide +kernel
theorem dX12_copyRow_6 : decode cX12_copyRow 6 = .ok (.if_icmp .ge 25, 3) := by decide +kernel
theorem dX12_copyRow_9 : decode cX12_copyRow 9 = .ok (.aload_n 0, 1) := by decide +kernel
theorem dX12_copyRow_10 : decode cX12_copyRow 10 = .ok (.iload_n 1, 1) := by decide +kernel
theorem dX12_copyRow_11 : decode cX12_copyRow 11 = .ok (.iload_n 3, 1) := by decide +kernel
theorem dX12_copyRow_12 : decode cX12_copyRow 12 = .ok (.imul, 1) := by decide +kernel
theorem dX12_copyRow_13 : decode cX12_copyRow 13 = .ok (.iload 4, 2) := by decide +kernel
theorem dX12_copyRow_15 : decode cX12_copyRow 15 = .ok (.iadd, 1) := by decide +kernel
theorem dX12_copyRow_16 : decode cX12_copyRow 16 = .ok (.aload_n 0, 1) := by decide +kernel
theorem dX12_copyRow_17 : decode cX12_copyRow 17 = .ok (.iload_n 1, 1) := by decide +kernel
theorem dX12_copyRow_18 : decode cX12_copyRow 18 = .ok (.iload_n 2, 1) := by decide +kernel
theorem dX12_copyRow_19 : decode cX12_copyRow 19 = .ok (.imul, 1) := by decide +kernel
theorem dX12_copyRow_20 : decode cX12_copyRow 20 = .ok (.iload 4, 2) := by decide +kernel
theorem dX12_copyRow_22 : decode cX12_copyRow 22 = .ok (.iadd, 1) := by decide +kernel
theorem dX12_copyRow_23 : decode cX12_copyRow 23 = .ok (.iaload, 1) := by decide +kernel
theorem dX12_copyRow_24 : decode cX12_copyRow 24 = .ok (.iastore, 1) := by decide +kernel
theorem dX12_copyRow_25 : decode cX12_copyRow 25 = .ok (.iinc 4 1, 3) := by decide +kernel
theorem dX12_copyRow_28 : decode cX12_copyRow 28 = .ok (.goto (-25), 3) := by decide +kernel
theorem dX12_copyRow_31 : decode cX12_copyRow 31 = .ok (.return_, 1) := by decide +kernel
theorem dX12_fault_0 : decode cX12_fault 0 = .ok (.aload_n 0, 1) := by decide +kernel
theorem dX12_fault_1 : decode cX12_fault 1 = .ok (.iconst 0, 1) := by decide +kernel
theorem dX12_fault_2 : decode cX12_fault 2 = .ok (.putfield 77, 3) := by decide +kernel
theorem dX12_fault_5 : decode cX12_fault 5 = .ok (.iload_n 1, 1) := by decide +kernel
theorem dX12_fault_6 : decode cX12_fault 6 = .ok (.ifCond .ne 10, 3) := by decide +kernel
theorem dX12_fault_9 : decode cX12_fault 9 = .ok (.aload_n 0, 1) := by decide +kernel
theorem dX12_fault_10 : decode cX12_fault 10 = .ok (.getfield 156, 3) := by decide +kernel
theorem dX12_fault_13 : decode cX12_fault 13 = .ok (.goto 16, 3) := by decide +kernel
theorem dX12_fault_16 : decode cX12_fault 16 = .ok (.iload_n 1, 1) := by decide +kernel
theorem dX12_fault_17 : decode cX12_fault 17 = .ok (.iconst 1, 1) := by decide +kernel
theorem dX12_fault_18 : decode cX12_fault 18 = .ok (.if_icmp .ne 10, 3) := by decide +kernel
theorem dX12_fault_21 : decode cX12_fault 21 = .ok (.aload_n 0, 1) := by decide +kernel
theorem dX12_fault_22 : decode cX12_fault 22 = .ok (.getfield 27, 3) := by decide +kernel
theorem dX12_fault_25 : decode cX12_fault 25 = .ok (.goto 4, 3) := by decide +kernel
theorem dX12_fault_28 : decode cX12_fault 28 = .ok (.iconst (-1), 1) := by decide +kernel
theorem dX12_fault_29 : decode cX12_fault 29 = .ok (.ireturn, 1) := by decide +kernel
theorem dX12_isLand_0 : decode cX12_isLand 0 = .ok (.iload_n 1, 1) := by decide +kernel
theorem dX12_isLand_1 : decode cX12_isLand 1 = .ok (.i2l, 1) := by decide +kernel
theorem dX12_isLand_2 : decode cX12_isLand 2 = .ok (.lconst 0, 1) := by decide +kernel
theorem dX12_isLand_3 : decode cX12_isLand 3 = .ok (.aload_n 0, 1) := by decide +kernel
theorem dX12_isLand_4 : decode cX12_isLand 4 = .ok (.getfield 34, 3) := by decide +kernel
theorem dX12_isLand_7 : decode cX12_isLand 7 = .ok (.iconst 3, 1) := by decide +kernel
theorem dX12_isLand_8 : decode cX12_isLand 8 = .ok (.iaload, 1) := by decide +kernel
theorem dX12_isLand_9 : decode cX12_isLand 9 = .ok (.i2l, 1) := by decide +kernel
theorem dX12_isLand_10 : decode cX12_isLand 10 = .ok (.lconst 1, 1) := by decide +kernel
theorem dX12_isLand_11 : decode cX12_isLand 11 = .ok (.lsub, 1) := by decide +kernel
theorem dX12_isLand_12 : decode cX12_isLand 12 = .ok (.invokestatic 82, 3) := by decide +kernel
theorem dX12_isLand_15 : decode cX12_isLand 15 = .ok (.ireturn, 1) := by decide +kernel
theorem dX12_isText_0 : decode cX12_isText 0 = .ok (.lload_n 1, 1) := by decide +kernel
theorem dX12_isText_1 : decode cX12_isText 1 = .ok (.lconst 0, 1) := by decide +kernel
theorem dX12_isText_2 : decode cX12_isText 2 = .ok (.aload_n 0, 1) := by decide +kernel
theorem dX12_isText_3 : decode cX12_isText 3 = .ok (.invokevirtual 260, 3) := by decide +kernel
theorem dX12_isText_6 : decode cX12_isText 6 = .ok (.i2l, 1) := by decide +kernel
theorem dX12_isText_7 : decode cX12_isText 7 = .ok (.lconst 1, 1) := by decide +kernel
theorem dX12_isText_8 : decode cX12_isText 8 = .ok (.lsub, 1) := by decide +kernel
theorem dX12_isText_9 : decode cX12_isText 9 = .ok (.invokestatic 82, 3) := by decide +kernel
theorem dX12_isText_12 : decode cX12_isText 12 = .ok (.ireturn, 1) := by decide +kernel
theorem dX12_isThen_0 : decode cX12_isThen 0 = .ok (.aload_n 0, 1) := by decide +kernel
theorem dX12_isThen_1 : decode cX12_isThen 1 = .ok (.iload_n 1, 1) := by decide +kernel
theorem dX12_isThen_2 : decode cX12_isThen 2 = .ok (.invokevirtual 265, 3) := by decide +kernel
theorem dX12_isThen_5 : decode cX12_isThen 5 = .ok (.ifCond .eq 14, 3) := by decide +kernel
theorem dX12_isThen_19 : decode cX12_isThen 19 = .ok (.iconst 0, 1) := by decide +kernel
theorem dX12_isThen_20 : decode cX12_isThen 20 = .ok (.ireturn, 1) := by decide +kernel
theorem dX12_may_0 : decode cX12_may 0 = .ok (.aload_n 0, 1) := by decide +kernel
theorem dX12_may_1 : decode cX12_may 1 = .ok (.iconst 0, 1) := by decide +kernel
theorem dX12_may_2 : decode cX12_may 2 = .ok (.putfield 77, 3) := by decide +kernel
theorem dX12_may_5 : decode cX12_may 5 = .ok (.aload_n 0, 1) := by decide +kernel
theorem dX12_may_6 : decode cX12_may 6 = .ok (.iload_n 1, 1) := by decide +kernel
theorem dX12_may_7 : decode cX12_may 7 = .ok (.invokevirtual 265, 3) := by decide +kernel
theorem dX12_may_10 : decode cX12_may 10 = .ok (.ifCond .eq 11, 3) := by decide +kernel
theorem dX12_may_21 : decode cX12_may 21 = .ok (.bipush (-2), 2) := by decide +kernel
theorem dX12_may_23 : decode cX12_may 23 = .ok (.ireturn, 1) := by decide +kernel
theorem dX12_means_0 : decode cX12_means 0 = .ok (.aload_n 0, 1) := by decide +kernel
theorem dX12_means_1 : decode cX12_means 1 = .ok (.iconst 0, 1) := by decide +kernel
theorem dX12_means_2 : decode cX12_means 2 = .ok (.putfield 77, 3) := by decide +kernel
theorem dX12_means_5 : decode cX12_means 5 = .ok (.aload_n 0, 1) := by decide +kernel
theorem dX12_means_6 : decode cX12_means 6 = .ok (.iload_n 1, 1) := by decide +kernel
theorem dX12_means_7 : decode cX12_means 7 = .ok (.iload_n 2, 1) := by decide +kernel
theorem dX12_means_8 : decode cX12_means 8 = .ok (.invokevirtual 323, 3) := by decide +kernel
theorem dX12_means_11 : decode cX12_means 11 = .ok (.ifCond .eq 11, 3) := by decide +kernel
theorem dX12_means_22 : decode cX12_means 22 = .ok (.bipush (-2), 2) := by decide +kernel
theorem dX12_means_24 : decode cX12_means 24 = .ok (.ireturn, 1) := by decide +kernel
theorem dX12_mute_0 : decode cX12_mute 0 = .ok (.aload_n 0, 1) := by decide +kernel
theorem dX12_mute_1 : decode cX12_mute 1 = .ok (.iconst 0, 1) := by decide +kernel
theorem dX12_mute_2 : decode cX12_mute 2 = .ok (.putfield 77, 3) := by decide +kernel
theorem dX12_mute_5 : decode cX12_mute 5 = .ok (.aload_n 0, 1) := by decide +kernel
theorem dX12_mute_6 : decode cX12_mute 6 = .ok (.iload_n 1, 1) := by decide +kernel
theorem dX12_mute_7 : decode cX12_mute 7 = .ok (.invokevirtual 265, 3) := by decide +kernel
theorem dX12_mute_10 : decode cX12_mute 10 = .ok (.ifCond .ne 6, 3) := by decide +kernel
theorem dX12_mute_13 : decode cX12_mute 13 = .ok (.bipush (-2), 2) := by decide +kernel
theorem dX12_mute_15 : decode cX12_mute 15 = .ok (.ireturn, 1) := by decide +kernel
theorem dX12_muted_0 : decode cX12_muted 0 = .ok (.aload_n 0, 1) := by decide +kernel
theorem dX12_muted_1 : decode cX12_muted 1 = .ok (.iconst 0, 1) := by decide +kernel
theorem dX12_muted_2 : decode cX12_muted 2 = .ok (.putfield 77, 3) := by decide +kernel
theorem dX12_muted_5 : decode cX12_muted 5 = .ok (.aload_n 0, 1) := by decide +kernel
theorem dX12_muted_6 : decode cX12_muted 6 = .ok (.iload_n 1, 1) := by decide +kernel
theorem dX12_muted_7 : decode cX12_muted 7 = .ok (.invokevirtual 265, 3) := by decide +kernel
theorem dX12_muted_10 : decode cX12_muted 10 = .ok (.ifCond .ne 6, 3) := by decide +kernel
theorem dX12_muted_13 : decode cX12_muted 13 = .ok (.bipush (-2), 2) := by decide +kernel
theorem dX12_muted_15 : decode cX12_muted 15 = .ok (.ireturn, 1) := by decide +kernel
theorem dX12_often_0 : decode cX12_often 0 = .ok (.aload_n 0, 1) := by decide +kernel
theorem dX12_often_1 : decode cX12_often 1 = .ok (.iconst 0, 1) := by decide +kernel
theorem dX12_often_2 : decode cX12_often 2 = .ok (.putfield 77, 3) := by decide +kernel
theorem dX12_often_5 : decode cX12_often 5 = .ok (.aload_n 0, 1) := by decide +kernel
theorem dX12_often_6 : decode cX12_often 6 = .ok (.iload_n 1, 1) := by decide +kernel
theorem dX12_often_7 : decode cX12_often 7 = .ok (.invokevirtual 265, 3) := by decide +kernel
theorem dX12_often_10 : decode cX12_often 10 = .ok (.ifCond .eq 19, 3) := by decide +kernel
theorem dX12_often_29 : decode cX12_often 29 = .ok (.bipush (-2), 2) := by decide +kernel
theorem dX12_often_31 : decode cX12_often 31 = .ok (.ireturn, 1) := by decide +kernel
theorem dX12_round_0 : decode cX12_round 0 = .ok (.aload_n 0, 1) := by decide +kernel
theorem dX12_round_1 : decode cX12_round 1 = .ok (.iconst 0, 1) := by decide +kernel
theorem dX12_round_2 : decode cX12_round 2 = .ok (.putfield 77, 3) := by decide +kernel
theorem dX12_round_5 : decode cX12_round 5 = .ok (.aload_n 0, 1) := by decide +kernel
theorem dX12_round_6 : decode cX12_round 6 = .ok (.iload_n 1, 1) := by decide +kernel
theorem dX12_round_7 : decode cX12_round 7 = .ok (.invokevirtual 265, 3) := by decide +kernel
theorem dX12_round_10 : decode cX12_round 10 = .ok (.ifCond .ne 6, 3) := by decide +kernel
theorem dX12_round_13 : decode cX12_round 13 = .ok (.bipush (-2), 2) := by decide +kernel
theorem dX12_round_15 : decode cX12_round 15 = .ok (.ireturn, 1) := by decide +kernel
theorem dX12_rule_0 : decode cX12_rule 0 = .ok (.aload_n 0, 1) := by decide +kernel
theorem dX12_rule_1 : decode cX12_rule 1 = .ok (.iconst 0, 1) := by decide +kernel
theorem dX12_rule_2 : decode cX12_rule 2 = .ok (.putfield 77, 3) := by decide +kernel
theorem dX12_rule_5 : decode cX12_rule 5 = .ok (.aload_n 0, 1) := by decide +kernel
theorem dX12_rule_6 : decode cX12_rule 6 = .ok (.iload_n 1, 1) := by decide +kernel
theorem dX12_rule_7 : decode cX12_rule 7 = .ok (.invokevirtual 265, 3) := by decide +kernel
theorem dX12_rule_10 : decode cX12_rule 10 = .ok (.ifCond .eq 48, 3) := by decide +kernel
theorem dX12_rule_58 : decode cX12_rule 58 = .ok (.bipush (-2), 2) := by decide +kernel
theorem dX12_rule_60 : decode cX12_rule 60 = .ok (.ireturn, 1) := by decide +kernel
theorem dX12_says_0 : decode cX12_says 0 = .ok (.aload_n 0, 1) := by decide +kernel
theorem dX12_says_1 : decode cX12_says 1 = .ok (.iconst 0, 1) := by decide +kernel
theorem dX12_says_2 : decode cX12_says 2 = .ok (.putfield 77, 3) := by decide +kernel
theorem dX12_says_5 : decode cX12_says 5 = .ok (.aload_n 0, 1) := by decide +kernel
theorem dX12_says_6 : decode cX12_says 6 = .ok (.iload_n 1, 1) := by decide +kernel
theorem dX12_says_7 : decode cX12_says 7 = .ok (.iload_n 2, 1) := by decide +kernel
theorem dX12_says_8 : decode cX12_says 8 = .ok (.invokevirtual 323, 3) := by decide +kernel
theorem dX12_says_11 : decode cX12_says 11 = .ok (.ifCond .eq 11, 3) := by decide +kernel
theorem dX12_says_22 : decode cX12_says 22 = .ok (.bipush (-2), 2) := by decide +kernel
theorem dX12_says_24 : decode cX12_says 24 = .ok (.ireturn, 1) := by decide +kernel
theorem dX12_sense_0 : decode cX12_sense 0 = .ok (.aload_n 0, 1) := by decide +kernel
theorem dX12_sense_1 : decode cX12_sense 1 = .ok (.iconst 0, 1) := by decide +kernel
theorem dX12_sense_2 : decode cX12_sense 2 = .ok (.putfield 77, 3) := by decide +kernel
theorem dX12_sense_5 : decode cX12_sense 5 = .ok (.iload_n 1, 1) := by decide +kernel
theorem dX12_sense_6 : decode cX12_sense 6 = .ok (.i2l, 1) := by decide +kernel
theorem dX12_sense_7 : decode cX12_sense 7 = .ok (.lconst 0, 1) := by decide +kernel
theorem dX12_sense_8 : decode cX12_sense 8 = .ok (.aload_n 0, 1) := by decide +kernel
theorem dX12_sense_9 : decode cX12_sense 9 = .ok (.invokevirtual 254, 3) := by decide +kernel
theorem dX12_sense_12 : decode cX12_sense 12 = .ok (.i2l, 1) := by decide +kernel
theorem dX12_sense_13 : decode cX12_sense 13 = .ok (.lconst 1, 1) := by decide +kernel
theorem dX12_sense_14 : decode cX12_sense 14 = .ok (.lsub, 1) := by decide +kernel
theorem dX12_sense_15 : decode cX12_sense 15 = .ok (.invokestatic 82, 3) := by decide +kernel
theorem dX12_sense_18 : decode cX12_sense 18 = .ok (.ifCond .eq 23, 3) := by decide +kernel
theorem dX12_sense_41 : decode cX12_sense 41 = .ok (.bipush (-2), 2) := by decide +kernel
theorem dX12_sense_43 : decode cX12_sense 43 = .ok (.ireturn, 1) := by decide +kernel
theorem dX12_senses_0 : decode cX12_senses 0 = .ok (.aload_n 0, 1) := by decide +kernel
theorem dX12_senses_1 : decode cX12_senses 1 = .ok (.getfield 34, 3) := by decide +kernel
theorem dX12_senses_4 : decode cX12_senses 4 = .ok (.iconst 2, 1) := by decide +kernel
theorem dX12_senses_5 : decode cX12_senses 5 = .ok (.iaload, 1) := by decide +kernel
theorem dX12_senses_6 : decode cX12_senses 6 = .ok (.ireturn, 1) := by decide +kernel
theorem dX12_texts_0 : decode cX12_texts 0 = .ok (.aload_n 0, 1) := by decide +kernel
theorem dX12_texts_1 : decode cX12_texts 1 = .ok (.getfield 34, 3) := by decide +kernel
theorem dX12_texts_4 : decode cX12_texts 4 = .ok (.iconst 4, 1) := by decide +kernel
theorem dX12_texts_5 : decode cX12_texts 5 = .ok (.iaload, 1) := by decide +kernel
theorem dX12_texts_6 : decode cX12_texts 6 = .ok (.ireturn, 1) := by decide +kernel
theorem dX12_when_0 : decode cX12_when 0 = .ok (.aload_n 0, 1) := by decide +kernel
theorem dX12_when_1 : decode cX12_when 1 = .ok (.iconst 0, 1) := by decide +kernel
theorem dX12_when_2 : decode cX12_when 2 = .ok (.putfield 77, 3) := by decide +kernel
theorem dX12_when_5 : decode cX12_when 5 = .ok (.aload_n 0, 1) := by decide +kernel
theorem dX12_when_6 : decode cX12_when 6 = .ok (.iload_n 1, 1) := by decide +kernel
theorem dX12_when_7 : decode cX12_when 7 = .ok (.iload 4, 2) := by decide +kernel
theorem dX12_when_9 : decode cX12_when 9 = .ok (.invokevirtual 323, 3) := by decide +kernel
theorem dX12_when_12 : decode cX12_when 12 = .ok (.ifCond .eq 19, 3) := by decide +kernel
theorem dX12_when_31 : decode cX12_when 31 = .ok (.bipush (-2), 2) := by decide +kernel
theorem dX12_when_33 : decode cX12_when 33 = .ok (.ireturn, 1) := by decide +kernel
theorem dX12_word_0 : decode cX12_word 0 = .ok (.aload_n 0, 1) := by decide +kernel
theorem dX12_word_1 : decode cX12_word 1 = .ok (.iconst 0, 1) := by decide +kernel
theorem dX12_word_2 : decode cX12_word 2 = .ok (.putfield 77, 3) := by decide +kernel
theorem dX12_word_5 : decode cX12_word 5 = .ok (.aload_n 0, 1) := by decide +kernel
theorem dX12_word_6 : decode cX12_word 6 = .ok (.iload_n 1, 1) := by decide +kernel
theorem dX12_word_7 : decode cX12_word 7 = .ok (.i2l, 1) := by decide +kernel
theorem dX12_word_8 : decode cX12_word 8 = .ok (.invokevirtual 317, 3) := by decide +kernel
theorem dX12_word_11 : decode cX12_word 11 = .ok (.ifCond .ne 6, 3) := by decide +kernel
theorem dX12_word_14 : decode cX12_word 14 = .ok (.bipush (-2), 2) := by decide +kernel
theorem dX12_word_16 : decode cX12_word 16 = .ok (.ireturn, 1) := by decide +kernel
theorem mm_k192 : mm_rg 192 192 192 := ⟨by decide, by decide⟩
theorem mm_k210 : mm_rg 210 210 210 := ⟨by decide, by decide⟩
theorem mm_k360 : mm_rg 360 360 360 := ⟨by decide, by decide⟩
theorem mm_k48 : mm_rg 48 48 48 := ⟨by decide, by decide⟩
theorem mm_k72 : mm_rg 72 72 72 := ⟨by decide, by decide⟩
theorem mm_k840 : mm_rg 840 840 840 := ⟨by decide, by decide⟩
theorem mm_k90 : mm_rg 90 90 90 := ⟨by decide, by decide⟩
theorem mm_klm1 : mm_rl (-1) (-1) (-1) := ⟨by decide, by decide⟩
theorem hd_X11_isLand : yX11_isLand.cls = RX11 ∧ yX11_isLand.cls ≠ "java/lang/invoke/MethodHandle" ∧ yX11_isLand.cls ≠ "java/lang/invoke/VarHandle" ∧ (parseMethodDescriptor yX11_isLand.desc).map (fun d => d.parameters.length) = some 1 := by decide +kernel
theorem hd_X11_isSense : yX11_isSense.cls = RX11 ∧ yX11_isSense.cls ≠ "java/lang/invoke/MethodHandle" ∧ yX11_isSense.cls ≠ "java/lang/invoke/VarHandle" ∧ (parseMethodDescriptor yX11_isSense.desc).map (fun d => d.parameters.length) = some 1 := by decide +kernel
theorem hd_X11_isText : yX11_isText.cls = RX11 ∧ yX11_isText.cls ≠ "java/lang/invoke/MethodHandle" ∧ yX11_isText.cls ≠ "java/lang/invoke/VarHandle" ∧ (parseMethodDescriptor yX11_isText.desc).map (fun d => d.parameters.length) = some 1 := by decide +kernel
theorem hd_X12_begins : yX12_begins.cls = RX12 ∧ yX12_begins.cls ≠ "java/lang/invoke/MethodHandle" ∧ yX12_begins.cls ≠ "java/lang/invoke/VarHandle" ∧ (parseMethodDescriptor yX12_begins.desc).map (fun d => d.parameters.length) = some 0 := by decide +kernel
theorem hd_X12_clears : yX12_clears.cls = RX12 ∧ yX12_clears.cls ≠ "java/lang/invoke/MethodHandle" ∧ yX12_clears.cls ≠ "java/lang/invoke/VarHandle" ∧ (parseMethodDescriptor yX12_clears.desc).map (fun d => d.parameters.length) = some 0 := by decide +kernel
theorem hd_X12_copyBook : yX12_copyBook.cls = RX12 ∧ yX12_copyBook.cls ≠ "java/lang/invoke/MethodHandle" ∧ yX12_copyBook.cls ≠ "java/lang/invoke/VarHandle" ∧ (parseMethodDescriptor yX12_copyBook.desc).map (fun d => d.parameters.length) = some 2 := by decide +kernel
theorem hd_X12_isGood : yX12_isGood.cls = RX12 ∧ yX12_isGood.cls ≠ "java/lang/invoke/MethodHandle" ∧ yX12_isGood.cls ≠ "java/lang/invoke/VarHandle" ∧ (parseMethodDescriptor yX12_isGood.desc).map (fun d => d.parameters.length) = some 0 := by decide +kernel
theorem hd_X12_isLand : yX12_isLand.cls = RX12 ∧ yX12_isLand.cls ≠ "java/lang/invoke/MethodHandle" ∧ yX12_isLand.cls ≠ "java/lang/invoke/VarHandle" ∧ (parseMethodDescriptor yX12_isLand.desc).map (fun d => d.parameters.length) = some 1 := by decide +kernel
theorem hd_X12_isOver : yX12_isOver.cls = RX12 ∧ yX12_isOver.cls ≠ "java/lang/invoke/MethodHandle" ∧ yX12_isOver.cls ≠ "java/lang/invoke/VarHandle" ∧ (parseMethodDescriptor yX12_isOver.desc).map (fun d => d.parameters.length) = some 0 := by decide +kernel
theorem hd_X12_isText : yX12_isText.cls = RX12 ∧ yX12_isText.cls ≠ "java/lang/invoke/MethodHandle" ∧ yX12_isText.cls ≠ "java/lang/invoke/VarHandle" ∧ (parseMethodDescriptor yX12_isText.desc).map (fun d => d.parameters.length) = some 1 := by decide +kernel
theorem hd_X12_isThen : yX12_isThen.cls = RX12 ∧ yX12_isThen.cls ≠ "java/lang/invoke/MethodHandle" ∧ yX12_isThen.cls ≠ "java/lang/invoke/VarHandle" ∧ (parseMethodDescriptor yX12_isThen.desc).map (fun d => d.parameters.length) = some 2 := by decide +kernel
theorem hd_X12_senses : yX12_senses.cls = RX12 ∧ yX12_senses.cls ≠ "java/lang/invoke/MethodHandle" ∧ yX12_senses.cls ≠ "java/lang/invoke/VarHandle" ∧ (parseMethodDescriptor yX12_senses.desc).map (fun d => d.parameters.length) = some 0 := by decide +kernel
theorem hd_X12_texts : yX12_texts.cls = RX12 ∧ yX12_texts.cls ≠ "java/lang/invoke/MethodHandle" ∧ yX12_texts.cls ≠ "java/lang/invoke/VarHandle" ∧ (parseMethodDescriptor yX12_texts.desc).map (fun d => d.parameters.length) = some 0 := by decide +kernel
theorem hs_X12_copyRow : yX12_copyRow.cls ≠ "java/lang/invoke/MethodHandle" ∧ yX12_copyRow.cls ≠ "java/lang/invoke/VarHandle" ∧ (parseMethodDescriptor yX12_copyRow.desc).map (fun d => d.parameters.length) = some 4 := by decide +kernel
set_option maxHeartbeats 4000000 in
set_option maxRecDepth 100000 in
theorem K79_X12_copyRow (l : Launch) (G : va_G) (cy : Nat → ClassId) (sz : Nat) (a_0 : Nat) (f_0 : Nat → Int32) (h0 : mm_ar f_0 0 0)  : mm_CV l yX12_copyRow (mm_ws yX12_copyRow cX12_copyRow 5 (none)) ({ frames := 0, cells := 0, slots := 0, locals := 0 } : Room) G cy sz [(a_0, .inl (cy 1, 5, .inl f_0))] [.ref a_0, .int 1, .int 4, .int 0] (fun u : (Nat → Int32) => [(a_0, .inl (cy 1, 5, .inl u))]) (fun u : (Nat → Int32) => mm_ar u 0 0) 0 0 := by
  refine mm_begin (lv := [(0, .ref a_0), (1, .int 1), (2, .int 4), (3, .int 0)]) (by decide) (Nat.le_of_ble_eq_true rfl) rfl ?_
  intro p e s m below meth c A ls R args Q H locs hRe hQ hAe hx hb hr hlocks hml hown hnm hts hsz hA hS hP hK hD hl
  have hRf : R.frames = 0 := by rw [hRe]
  have hRl : R.locals = 0 := by rw [hRe]
  have hRc : R.cells = 0 := by rw [hRe]
  have hRs : R.slots = 0 := by rw [hRe]
  refine lv_iconst (v := 0) hx hb dX12_copyRow_0 (by decide) ?_
  refine lv_istore (lv' := [(4, .int 0), (0, .ref a_0), (1, .int 1), (2, .int 4), (3, .int 0)]) hx hb dX12_copyRow_1 hl (by decide) rfl ?_
  clear hl
  clear ls
  intro ls hl
  have L3_29 : ∀ (n : Nat) (x3_4_28 : Int32) (z3_0_29 : Nat → Int32), mm_rg x3_4_28 0 1 → mm_ar z3_0_29 0 0 → (1 - x3_4_28.toInt).toNat < n → ∀ (H : Heap) (locs : List Loc), va_P G vwCl [(a_0, .inl (cy 1, 5, .inl z3_0_29))] H → va_D A [(a_0, .inl (cy 1, 5, .inl z3_0_29))] → va_S A s.heap H locs → ∀ (ls : Array Slot), lv_has ls 5 [(4, .int x3_4_28), (0, .ref a_0), (1, .int 1), (2, .int 4), (3, .int 0)] → W p l e R s m args below meth c H locs 0 0 Q (F0 m 3 ls []) := by
    intro n
    induction n with
    | zero => intro x3_4_28 z3_0_29 rx3_4_28 rz3_0_29 hm; exact absurd hm (Nat.not_lt_zero _)
    | succ n ih3 =>
      intro x3_4_28 z3_0_29 rx3_4_28 rz3_0_29 hm3 H locs hP hD hS ls hl
      refine lv_iload hx hb dX12_copyRow_3 (lv_at hl 0 rfl) ?_
      refine lv_iload_n hx hb dX12_copyRow_5 rfl (lv_at hl 2 rfl) ?_
      refine lv_icmp_ge (tgt := 31) hx hb dX12_copyRow_6 (by decide) (fun c31 => ?_) (fun c31 => ?_)
      · have q32 := mm_leR (mm_le c31) mm_k1 rx3_4_28
        subst hAe
        rw [hQ]
        exact W.vret hx hb hr (fun t ht hW => ⟨⟨z3_0_29, rfl, rz3_0_29, by rw [ht]; exact hP, hK.warm hW, hD⟩, hS.F ht⟩) hS.2.2 dX12_copyRow_31
      · have q33 := mm_ltL (h := 0) (mm_nle c31) rx3_4_28 mm_k1 (by decide)
        refine lv_aload_n hx hb dX12_copyRow_9 rfl (lv_at hl 1 rfl) ?_
        refine lv_iload_n hx hb dX12_copyRow_10 rfl (lv_at hl 2 rfl) ?_
        refine lv_iload_n hx hb dX12_copyRow_11 rfl (lv_at hl 4 rfl) ?_
        refine lv_imul hx hb dX12_copyRow_12 ?_
        refine lv_topi (fun v34 ev34 => ?_)
        obtain rfl : v34 = 0 := ev34.trans (by decide)
        refine lv_iload hx hb dX12_copyRow_13 (lv_at hl 0 rfl) ?_
        refine lv_iadd hx hb dX12_copyRow_15 ?_
        refine lv_topi (fun v35 ev35 => ?_)
        have rv35 : mm_rg v35 0 0 := mm_add ev35 mm_k0 q33 (by decide) (by decide)
        have tv35 := mm_addE ev35 mm_k0 q33 (by decide)
        refine lv_aload_n hx hb dX12_copyRow_16 rfl (lv_at hl 1 rfl) ?_
        refine lv_iload_n hx hb dX12_copyRow_17 rfl (lv_at hl 2 rfl) ?_
        refine lv_iload_n hx hb dX12_copyRow_18 rfl (lv_at hl 3 rfl) ?_
        refine lv_imul hx hb dX12_copyRow_19 ?_
        refine lv_topi (fun v36 ev36 => ?_)
        obtain rfl : v36 = 4 := ev36.trans (by decide)
        refine lv_iload hx hb dX12_copyRow_20 (lv_at hl 0 rfl) ?_
        refine lv_iadd hx hb dX12_copyRow_22 ?_
        refine lv_topi (fun v37 ev37 => ?_)
        have rv37 : mm_rg v37 4 4 := mm_add ev37 mm_k4 q33 (by decide) (by decide)
        have tv37 := mm_addE ev37 mm_k4 q33 (by decide)
        refine va_iald hx hb hK.1 hP 0 1 rfl rfl (mm_in rv37 (by decide)) dX12_copyRow_23 ?_
        refine lv_topi (fun v38 ev38 => ?_)
        have rv38 : mm_rg v38 0 0 := mm_eqv ev38 (rz3_0_29 _)
        refine va_iast hx hb hK.1 hP hD hS 0 1 rfl rfl (mm_in rv35 (by decide)) dX12_copyRow_24 ?_
        clear hP hD hS
        clear H locs
        obtain ⟨g39, eg39⟩ : ∃ z : Nat → Int32, z = upd z3_0_29 v35.toNatClampNeg v38 := ⟨_, rfl⟩
        rw [← eg39]
        intro H locs (hP : va_P G vwCl [(a_0, .inl (cy 1, 5, .inl g39))] H) (hD : va_D A [(a_0, .inl (cy 1, 5, .inl g39))]) hS
        have rg39 : mm_ar g39 0 0 := by rw [eg39]; exact mm_ar_upd (mm_ar_wk rz3_0_29 (by decide)) (mm_wk rv38 (by decide)) _
        obtain ⟨v40, ev40⟩ : ∃ y : Int32, y = x3_4_28 + 1 := ⟨_, rfl⟩
        refine lv_iinc (v := v40) (lv' := [(4, .int v40), (0, .ref a_0), (1, .int 1), (2, .int 4), (3, .int 0)]) hx hb dX12_copyRow_25 hl (k := 0) rfl (by rw [ev40]; rfl) (by decide) rfl ?_
        clear hl
        clear ls
        intro ls hl
        have rv40 : mm_rg v40 1 1 := mm_add ev40 q33 mm_k1 (by decide) (by decide)
        have tv40 := mm_addE ev40 q33 mm_k1 (by decide)
        refine lv_goto (tgt := 3) hx hb dX12_copyRow_28 (by decide) ?_
        exact ih3 v40 g39 (mm_wk rv40 (by decide)) rg39 (mm_mu hm3 tv40 (by decide) (rv40).2 (by decide)) H locs hP hD hS ls (lv_sub hl [0, 1, 2, 3, 4] rfl)
  exact L3_29 _ 0 f_0 (mm_wk mm_k0 (by decide)) h0 (Nat.lt_succ_self _) H locs hP hD hS ls (lv_sub hl [0, 1, 2, 3, 4] rfl)

set_option maxHeartbeats 4000000 in
set_option maxRecDepth 100000 in
theorem K80_X12_copyRow (l : Launch) (G : va_G) (cy : Nat → ClassId) (sz : Nat) (a_0 : Nat) (f_1 : Nat → Int32) (h0 : mm_ar f_1 0 0)  : mm_CV l yX12_copyRow (mm_ws yX12_copyRow cX12_copyRow 5 (none)) ({ frames := 0, cells := 0, slots := 0, locals := 0 } : Room) G cy sz [(a_0, .inl (cy 1, 30, .inl f_1))] [.ref a_0, .int 6, .int 4, .int 0] (fun u : (Nat → Int32) => [(a_0, .inl (cy 1, 30, .inl u))]) (fun u : (Nat → Int32) => mm_ar u 0 0) 0 0 := by
  refine mm_begin (lv := [(0, .ref a_0), (1, .int 6), (2, .int 4), (3, .int 0)]) (by decide) (Nat.le_of_ble_eq_true rfl) rfl ?_
  intro p e s m below meth c A ls R args Q H locs hRe hQ hAe hx hb hr hlocks hml hown hnm hts hsz hA hS hP hK hD hl
  have hRf : R.frames = 0 := by rw [hRe]
  have hRl : R.locals = 0 := by rw [hRe]
  have hRc : R.cells = 0 := by rw [hRe]
  have hRs : R.slots = 0 := by rw [hRe]
  refine lv_iconst (v := 0) hx hb dX12_copyRow_0 (by decide) ?_
  refine lv_istore (lv' := [(4, .int 0), (0, .ref a_0), (1, .int 6), (2, .int 4), (3, .int 0)]) hx hb dX12_copyRow_1 hl (by decide) rfl ?_
  clear hl
  clear ls
  intro ls hl
  have L3_57 : ∀ (n : Nat) (x3_4_56 : Int32) (z3_0_57 : Nat → Int32), mm_rg x3_4_56 0 6 → mm_ar z3_0_57 0 0 → (6 - x3_4_56.toInt).toNat < n → ∀ (H : Heap) (locs : List Loc), va_P G vwCl [(a_0, .inl (cy 1, 30, .inl z3_0_57))] H → va_D A [(a_0, .inl (cy 1, 30, .inl z3_0_57))] → va_S A s.heap H locs → ∀ (ls : Array Slot), lv_has ls 5 [(4, .int x3_4_56), (0, .ref a_0), (1, .int 6), (2, .int 4), (3, .int 0)] → W p l e R s m args below meth c H locs 0 0 Q (F0 m 3 ls []) := by
    intro n
    induction n with
    | zero => intro x3_4_56 z3_0_57 rx3_4_56 rz3_0_57 hm; exact absurd hm (Nat.not_lt_zero _)
    | succ n ih3 =>
      intro x3_4_56 z3_0_57 rx3_4_56 rz3_0_57 hm3 H locs hP hD hS ls hl
      refine lv_iload hx hb dX12_copyRow_3 (lv_at hl 0 rfl) ?_
      refine lv_iload_n hx hb dX12_copyRow_5 rfl (lv_at hl 2 rfl) ?_
      refine lv_icmp_ge (tgt := 31) hx hb dX12_copyRow_6 (by decide) (fun c59 => ?_) (fun c59 => ?_)
      · have q60 := mm_leR (mm_le c59) mm_k6 rx3_4_56
        subst hAe
        rw [hQ]
        exact W.vret hx hb hr (fun t ht hW => ⟨⟨z3_0_57, rfl, rz3_0_57, by rw [ht]; exact hP, hK.warm hW, hD⟩, hS.F ht⟩) hS.2.2 dX12_copyRow_31
      · have q61 := mm_ltL (h := 5) (mm_nle c59) rx3_4_56 mm_k6 (by decide)
        refine lv_aload_n hx hb dX12_copyRow_9 rfl (lv_at hl 1 rfl) ?_
        refine lv_iload_n hx hb dX12_copyRow_10 rfl (lv_at hl 2 rfl) ?_
        refine lv_iload_n hx hb dX12_copyRow_11 rfl (lv_at hl 4 rfl) ?_
        refine lv_imul hx hb dX12_copyRow_12 ?_
        refine lv_topi (fun v62 ev62 => ?_)
        obtain rfl : v62 = 0 := ev62.trans (by decide)
        refine lv_iload hx hb dX12_copyRow_13 (lv_at hl 0 rfl) ?_
        refine lv_iadd hx hb dX12_copyRow_15 ?_
        refine lv_topi (fun v63 ev63 => ?_)
        have rv63 : mm_rg v63 0 5 := mm_add ev63 mm_k0 q61 (by decide) (by decide)
        have tv63 := mm_addE ev63 mm_k0 q61 (by decide)
        refine lv_aload_n hx hb dX12_copyRow_16 rfl (lv_at hl 1 rfl) ?_
        refine lv_iload_n hx hb dX12_copyRow_17 rfl (lv_at hl 2 rfl) ?_
        refine lv_iload_n hx hb dX12_copyRow_18 rfl (lv_at hl 3 rfl) ?_
        refine lv_imul hx hb dX12_copyRow_19 ?_
        refine lv_topi (fun v64 ev64 => ?_)
        obtain rfl : v64 = 24 := ev64.trans (by decide)
        refine lv_iload hx hb dX12_copyRow_20 (lv_at hl 0 rfl) ?_
        refine lv_iadd hx hb dX12_copyRow_22 ?_
        refine lv_topi (fun v65 ev65 => ?_)
        have rv65 : mm_rg v65 24 29 := mm_add ev65 mm_k24 q61 (by decide) (by decide)
        have tv65 := mm_addE ev65 mm_k24 q61 (by decide)
        refine va_iald hx hb hK.1 hP 0 1 rfl rfl (mm_in rv65 (by decide)) dX12_copyRow_23 ?_
        refine lv_topi (fun v66 ev66 => ?_)
        have rv66 : mm_rg v66 0 0 := mm_eqv ev66 (rz3_0_57 _)
        refine va_iast hx hb hK.1 hP hD hS 0 1 rfl rfl (mm_in rv63 (by decide)) dX12_copyRow_24 ?_
        clear hP hD hS
        clear H locs
        obtain ⟨g67, eg67⟩ : ∃ z : Nat → Int32, z = upd z3_0_57 v63.toNatClampNeg v66 := ⟨_, rfl⟩
        rw [← eg67]
        intro H locs (hP : va_P G vwCl [(a_0, .inl (cy 1, 30, .inl g67))] H) (hD : va_D A [(a_0, .inl (cy 1, 30, .inl g67))]) hS
        have rg67 : mm_ar g67 0 0 := by rw [eg67]; exact mm_ar_upd (mm_ar_wk rz3_0_57 (by decide)) (mm_wk rv66 (by decide)) _
        obtain ⟨v68, ev68⟩ : ∃ y : Int32, y = x3_4_56 + 1 := ⟨_, rfl⟩
        refine lv_iinc (v := v68) (lv' := [(4, .int v68), (0, .ref a_0), (1, .int 6), (2, .int 4), (3, .int 0)]) hx hb dX12_copyRow_25 hl (k := 0) rfl (by rw [ev68]; rfl) (by decide) rfl ?_
        clear hl
        clear ls
        intro ls hl
        have rv68 : mm_rg v68 1 6 := mm_add ev68 q61 mm_k1 (by decide) (by decide)
        have tv68 := mm_addE ev68 q61 mm_k1 (by decide)
        refine lv_goto (tgt := 3) hx hb dX12_copyRow_28 (by decide) ?_
        exact ih3 v68 g67 (mm_wk rv68 (by decide)) rg67 (mm_mu hm3 tv68 (by decide) (rv68).2 (by decide)) H locs hP hD hS ls (lv_sub hl [0, 1, 2, 3, 4] rfl)
  exact L3_57 _ 0 f_1 (mm_wk mm_k0 (by decide)) h0 (Nat.lt_succ_self _) H locs hP hD hS ls (lv_sub hl [0, 1, 2, 3, 4] rfl)

set_option maxHeartbeats 4000000 in
set_option maxRecDepth 100000 in
theorem K81_X12_copyRow (l : Launch) (G : va_G) (cy : Nat → ClassId) (sz : Nat) (a_0 : Nat)   : mm_CV l yX12_copyRow (mm_ws yX12_copyRow cX12_copyRow 5 (none)) ({ frames := 0, cells := 0, slots := 0, locals := 0 } : Room) G cy sz [(a_0, .inl (cy 1, 90, .inl (fun _ => 0)))] [.ref a_0, .int 18, .int 4, .int 0] (fun u : (Nat → Int32) => [(a_0, .inl (cy 1, 90, .inl u))]) (fun u : (Nat → Int32) => mm_ar u 0 0) 0 0 := by
  refine mm_begin (lv := [(0, .ref a_0), (1, .int 18), (2, .int 4), (3, .int 0)]) (by decide) (Nat.le_of_ble_eq_true rfl) rfl ?_
  intro p e s m below meth c A ls R args Q H locs hRe hQ hAe hx hb hr hlocks hml hown hnm hts hsz hA hS hP hK hD hl
  have hRf : R.frames = 0 := by rw [hRe]
  have hRl : R.locals = 0 := by rw [hRe]
  have hRc : R.cells = 0 := by rw [hRe]
  have hRs : R.slots = 0 := by rw [hRe]
  refine lv_iconst (v := 0) hx hb dX12_copyRow_0 (by decide) ?_
  refine lv_istore (lv' := [(4, .int 0), (0, .ref a_0), (1, .int 18), (2, .int 4), (3, .int 0)]) hx hb dX12_copyRow_1 hl (by decide) rfl ?_
  clear hl
  clear ls
  intro ls hl
  have L3_57 : ∀ (n : Nat) (x3_4_56 : Int32) (z3_0_57 : Nat → Int32), mm_rg x3_4_56 0 18 → mm_ar z3_0_57 0 0 → (18 - x3_4_56.toInt).toNat < n → ∀ (H : Heap) (locs : List Loc), va_P G vwCl [(a_0, .inl (cy 1, 90, .inl z3_0_57))] H → va_D A [(a_0, .inl (cy 1, 90, .inl z3_0_57))] → va_S A s.heap H locs → ∀ (ls : Array Slot), lv_has ls 5 [(4, .int x3_4_56), (0, .ref a_0), (1, .int 18), (2, .int 4), (3, .int 0)] → W p l e R s m args below meth c H locs 0 0 Q (F0 m 3 ls []) := by
    intro n
    induction n with
    | zero => intro x3_4_56 z3_0_57 rx3_4_56 rz3_0_57 hm; exact absurd hm (Nat.not_lt_zero _)
    | succ n ih3 =>
      intro x3_4_56 z3_0_57 rx3_4_56 rz3_0_57 hm3 H locs hP hD hS ls hl
      refine lv_iload hx hb dX12_copyRow_3 (lv_at hl 0 rfl) ?_
      refine lv_iload_n hx hb dX12_copyRow_5 rfl (lv_at hl 2 rfl) ?_
      refine lv_icmp_ge (tgt := 31) hx hb dX12_copyRow_6 (by decide) (fun c59 => ?_) (fun c59 => ?_)
      · have q60 := mm_leR (mm_le c59) mm_k18 rx3_4_56
        subst hAe
        rw [hQ]
        exact W.vret hx hb hr (fun t ht hW => ⟨⟨z3_0_57, rfl, rz3_0_57, by rw [ht]; exact hP, hK.warm hW, hD⟩, hS.F ht⟩) hS.2.2 dX12_copyRow_31
      · have q61 := mm_ltL (h := 17) (mm_nle c59) rx3_4_56 mm_k18 (by decide)
        refine lv_aload_n hx hb dX12_copyRow_9 rfl (lv_at hl 1 rfl) ?_
        refine lv_iload_n hx hb dX12_copyRow_10 rfl (lv_at hl 2 rfl) ?_
        refine lv_iload_n hx hb dX12_copyRow_11 rfl (lv_at hl 4 rfl) ?_
        refine lv_imul hx hb dX12_copyRow_12 ?_
        refine lv_topi (fun v62 ev62 => ?_)
        obtain rfl : v62 = 0 := ev62.trans (by decide)
        refine lv_iload hx hb dX12_copyRow_13 (lv_at hl 0 rfl) ?_
        refine lv_iadd hx hb dX12_copyRow_15 ?_
        refine lv_topi (fun v63 ev63 => ?_)
        have rv63 : mm_rg v63 0 17 := mm_add ev63 mm_k0 q61 (by decide) (by decide)
        have tv63 := mm_addE ev63 mm_k0 q61 (by decide)
        refine lv_aload_n hx hb dX12_copyRow_16 rfl (lv_at hl 1 rfl) ?_
        refine lv_iload_n hx hb dX12_copyRow_17 rfl (lv_at hl 2 rfl) ?_
        refine lv_iload_n hx hb dX12_copyRow_18 rfl (lv_at hl 3 rfl) ?_
        refine lv_imul hx hb dX12_copyRow_19 ?_
        refine lv_topi (fun v64 ev64 => ?_)
        obtain rfl : v64 = 72 := ev64.trans (by decide)
        refine lv_iload hx hb dX12_copyRow_20 (lv_at hl 0 rfl) ?_
        refine lv_iadd hx hb dX12_copyRow_22 ?_
        refine lv_topi (fun v65 ev65 => ?_)
        have rv65 : mm_rg v65 72 89 := mm_add ev65 mm_k72 q61 (by decide) (by decide)
        have tv65 := mm_addE ev65 mm_k72 q61 (by decide)
        refine va_iald hx hb hK.1 hP 0 1 rfl rfl (mm_in rv65 (by decide)) dX12_copyRow_23 ?_
        refine lv_topi (fun v66 ev66 => ?_)
        have rv66 : mm_rg v66 0 0 := mm_eqv ev66 (rz3_0_57 _)
        refine va_iast hx hb hK.1 hP hD hS 0 1 rfl rfl (mm_in rv63 (by decide)) dX12_copyRow_24 ?_
        clear hP hD hS
        clear H locs
        obtain ⟨g67, eg67⟩ : ∃ z : Nat → Int32, z = upd z3_0_57 v63.toNatClampNeg v66 := ⟨_, rfl⟩
        rw [← eg67]
        intro H locs (hP : va_P G vwCl [(a_0, .inl (cy 1, 90, .inl g67))] H) (hD : va_D A [(a_0, .inl (cy 1, 90, .inl g67))]) hS
        have rg67 : mm_ar g67 0 0 := by rw [eg67]; exact mm_ar_upd (mm_ar_wk rz3_0_57 (by decide)) (mm_wk rv66 (by decide)) _
        obtain ⟨v68, ev68⟩ : ∃ y : Int32, y = x3_4_56 + 1 := ⟨_, rfl⟩
        refine lv_iinc (v := v68) (lv' := [(4, .int v68), (0, .ref a_0), (1, .int 18), (2, .int 4), (3, .int 0)]) hx hb dX12_copyRow_25 hl (k := 0) rfl (by rw [ev68]; rfl) (by decide) rfl ?_
        clear hl
        clear ls
        intro ls hl
        have rv68 : mm_rg v68 1 18 := mm_add ev68 q61 mm_k1 (by decide) (by decide)
        have tv68 := mm_addE ev68 q61 mm_k1 (by decide)
        refine lv_goto (tgt := 3) hx hb dX12_copyRow_28 (by decide) ?_
        exact ih3 v68 g67 (mm_wk rv68 (by decide)) rg67 (mm_mu hm3 tv68 (by decide) (rv68).2 (by decide)) H locs hP hD hS ls (lv_sub hl [0, 1, 2, 3, 4] rfl)
  exact L3_57 _ 0 (fun _ => 0) (mm_wk mm_k0 (by decide)) (mm_ar_c mm_k0) (Nat.lt_succ_self _) H locs hP hD hS ls (lv_sub hl [0, 1, 2, 3, 4] rfl)

set_option maxHeartbeats 4000000 in
set_option maxRecDepth 100000 in
theorem K82_X12_copyRow (l : Launch) (G : va_G) (cy : Nat → ClassId) (sz : Nat) (a_0 : Nat) (f_3 : Nat → Int32) (h0 : mm_ar f_3 0 0)  : mm_CV l yX12_copyRow (mm_ws yX12_copyRow cX12_copyRow 5 (none)) ({ frames := 0, cells := 0, slots := 0, locals := 0 } : Room) G cy sz [(a_0, .inl (cy 1, 15, .inl f_3))] [.ref a_0, .int 3, .int 4, .int 0] (fun u : (Nat → Int32) => [(a_0, .inl (cy 1, 15, .inl u))]) (fun u : (Nat → Int32) => mm_ar u 0 0) 0 0 := by
  refine mm_begin (lv := [(0, .ref a_0), (1, .int 3), (2, .int 4), (3, .int 0)]) (by decide) (Nat.le_of_ble_eq_true rfl) rfl ?_
  intro p e s m below meth c A ls R args Q H locs hRe hQ hAe hx hb hr hlocks hml hown hnm hts hsz hA hS hP hK hD hl
  have hRf : R.frames = 0 := by rw [hRe]
  have hRl : R.locals = 0 := by rw [hRe]
  have hRc : R.cells = 0 := by rw [hRe]
  have hRs : R.slots = 0 := by rw [hRe]
  refine lv_iconst (v := 0) hx hb dX12_copyRow_0 (by decide) ?_
  refine lv_istore (lv' := [(4, .int 0), (0, .ref a_0), (1, .int 3), (2, .int 4), (3, .int 0)]) hx hb dX12_copyRow_1 hl (by decide) rfl ?_
  clear hl
  clear ls
  intro ls hl
  have L3_57 : ∀ (n : Nat) (x3_4_56 : Int32) (z3_0_57 : Nat → Int32), mm_rg x3_4_56 0 3 → mm_ar z3_0_57 0 0 → (3 - x3_4_56.toInt).toNat < n → ∀ (H : Heap) (locs : List Loc), va_P G vwCl [(a_0, .inl (cy 1, 15, .inl z3_0_57))] H → va_D A [(a_0, .inl (cy 1, 15, .inl z3_0_57))] → va_S A s.heap H locs → ∀ (ls : Array Slot), lv_has ls 5 [(4, .int x3_4_56), (0, .ref a_0), (1, .int 3), (2, .int 4), (3, .int 0)] → W p l e R s m args below meth c H locs 0 0 Q (F0 m 3 ls []) := by
    intro n
    induction n with
    | zero => intro x3_4_56 z3_0_57 rx3_4_56 rz3_0_57 hm; exact absurd hm (Nat.not_lt_zero _)
    | succ n ih3 =>
      intro x3_4_56 z3_0_57 rx3_4_56 rz3_0_57 hm3 H locs hP hD hS ls hl
      refine lv_iload hx hb dX12_copyRow_3 (lv_at hl 0 rfl) ?_
      refine lv_iload_n hx hb dX12_copyRow_5 rfl (lv_at hl 2 rfl) ?_
      refine lv_icmp_ge (tgt := 31) hx hb dX12_copyRow_6 (by decide) (fun c59 => ?_) (fun c59 => ?_)
      · have q60 := mm_leR (mm_le c59) mm_k3 rx3_4_56
        subst hAe
        rw [hQ]
        exact W.vret hx hb hr (fun t ht hW => ⟨⟨z3_0_57, rfl, rz3_0_57, by rw [ht]; exact hP, hK.warm hW, hD⟩, hS.F ht⟩) hS.2.2 dX12_copyRow_31
      · have q61 := mm_ltL (h := 2) (mm_nle c59) rx3_4_56 mm_k3 (by decide)
        refine lv_aload_n hx hb dX12_copyRow_9 rfl (lv_at hl 1 rfl) ?_
        refine lv_iload_n hx hb dX12_copyRow_10 rfl (lv_at hl 2 rfl) ?_
        refine lv_iload_n hx hb dX12_copyRow_11 rfl (lv_at hl 4 rfl) ?_
        refine lv_imul hx hb dX12_copyRow_12 ?_
        refine lv_topi (fun v62 ev62 => ?_)
        obtain rfl : v62 = 0 := ev62.trans (by decide)
        refine lv_iload hx hb dX12_copyRow_13 (lv_at hl 0 rfl) ?_
        refine lv_iadd hx hb dX12_copyRow_15 ?_
        refine lv_topi (fun v63 ev63 => ?_)
        have rv63 : mm_rg v63 0 2 := mm_add ev63 mm_k0 q61 (by decide) (by decide)
        have tv63 := mm_addE ev63 mm_k0 q61 (by decide)
        refine lv_aload_n hx hb dX12_copyRow_16 rfl (lv_at hl 1 rfl) ?_
        refine lv_iload_n hx hb dX12_copyRow_17 rfl (lv_at hl 2 rfl) ?_
        refine lv_iload_n hx hb dX12_copyRow_18 rfl (lv_at hl 3 rfl) ?_
        refine lv_imul hx hb dX12_copyRow_19 ?_
        refine lv_topi (fun v64 ev64 => ?_)
        obtain rfl : v64 = 12 := ev64.trans (by decide)
        refine lv_iload hx hb dX12_copyRow_20 (lv_at hl 0 rfl) ?_
        refine lv_iadd hx hb dX12_copyRow_22 ?_
        refine lv_topi (fun v65 ev65 => ?_)
        have rv65 : mm_rg v65 12 14 := mm_add ev65 mm_k12 q61 (by decide) (by decide)
        have tv65 := mm_addE ev65 mm_k12 q61 (by decide)
        refine va_iald hx hb hK.1 hP 0 1 rfl rfl (mm_in rv65 (by decide)) dX12_copyRow_23 ?_
        refine lv_topi (fun v66 ev66 => ?_)
        have rv66 : mm_rg v66 0 0 := mm_eqv ev66 (rz3_0_57 _)
        refine va_iast hx hb hK.1 hP hD hS 0 1 rfl rfl (mm_in rv63 (by decide)) dX12_copyRow_24 ?_
        clear hP hD hS
        clear H locs
        obtain ⟨g67, eg67⟩ : ∃ z : Nat → Int32, z = upd z3_0_57 v63.toNatClampNeg v66 := ⟨_, rfl⟩
        rw [← eg67]
        intro H locs (hP : va_P G vwCl [(a_0, .inl (cy 1, 15, .inl g67))] H) (hD : va_D A [(a_0, .inl (cy 1, 15, .inl g67))]) hS
        have rg67 : mm_ar g67 0 0 := by rw [eg67]; exact mm_ar_upd (mm_ar_wk rz3_0_57 (by decide)) (mm_wk rv66 (by decide)) _
        obtain ⟨v68, ev68⟩ : ∃ y : Int32, y = x3_4_56 + 1 := ⟨_, rfl⟩
        refine lv_iinc (v := v68) (lv' := [(4, .int v68), (0, .ref a_0), (1, .int 3), (2, .int 4), (3, .int 0)]) hx hb dX12_copyRow_25 hl (k := 0) rfl (by rw [ev68]; rfl) (by decide) rfl ?_
        clear hl
        clear ls
        intro ls hl
        have rv68 : mm_rg v68 1 3 := mm_add ev68 q61 mm_k1 (by decide) (by decide)
        have tv68 := mm_addE ev68 q61 mm_k1 (by decide)
        refine lv_goto (tgt := 3) hx hb dX12_copyRow_28 (by decide) ?_
        exact ih3 v68 g67 (mm_wk rv68 (by decide)) rg67 (mm_mu hm3 tv68 (by decide) (rv68).2 (by decide)) H locs hP hD hS ls (lv_sub hl [0, 1, 2, 3, 4] rfl)
  exact L3_57 _ 0 f_3 (mm_wk mm_k0 (by decide)) h0 (Nat.lt_succ_self _) H locs hP hD hS ls (lv_sub hl [0, 1, 2, 3, 4] rfl)

set_option maxHeartbeats 4000000 in
set_option maxRecDepth 100000 in
theorem K83_X12_copyRow (l : Launch) (G : va_G) (cy : Nat → ClassId) (sz : Nat) (a_0 : Nat)   : mm_CV l yX12_copyRow (mm_ws yX12_copyRow cX12_copyRow 5 (none)) ({ frames := 0, cells := 0, slots := 0, locals := 0 } : Room) G cy sz [(a_0, .inl (cy 1, 1050, .inl (fun _ => 0)))] [.ref a_0, .int 210, .int 4, .int 0] (fun u : (Nat → Int32) => [(a_0, .inl (cy 1, 1050, .inl u))]) (fun u : (Nat → Int32) => mm_ar u 0 0) 0 0 := by
  refine mm_begin (lv := [(0, .ref a_0), (1, .int 210), (2, .int 4), (3, .int 0)]) (by decide) (Nat.le_of_ble_eq_true rfl) rfl ?_
  intro p e s m below meth c A ls R args Q H locs hRe hQ hAe hx hb hr hlocks hml hown hnm hts hsz hA hS hP hK hD hl
  have hRf : R.frames = 0 := by rw [hRe]
  have hRl : R.locals = 0 := by rw [hRe]
  have hRc : R.cells = 0 := by rw [hRe]
  have hRs : R.slots = 0 := by rw [hRe]
  refine lv_iconst (v := 0) hx hb dX12_copyRow_0 (by decide) ?_
  refine lv_istore (lv' := [(4, .int 0), (0, .ref a_0), (1, .int 210), (2, .int 4), (3, .int 0)]) hx hb dX12_copyRow_1 hl (by decide) rfl ?_
  clear hl
  clear ls
  intro ls hl
  have L3_57 : ∀ (n : Nat) (x3_4_56 : Int32) (z3_0_57 : Nat → Int32), mm_rg x3_4_56 0 210 → mm_ar z3_0_57 0 0 → (210 - x3_4_56.toInt).toNat < n → ∀ (H : Heap) (locs : List Loc), va_P G vwCl [(a_0, .inl (cy 1, 1050, .inl z3_0_57))] H → va_D A [(a_0, .inl (cy 1, 1050, .inl z3_0_57))] → va_S A s.heap H locs → ∀ (ls : Array Slot), lv_has ls 5 [(4, .int x3_4_56), (0, .ref a_0), (1, .int 210), (2, .int 4), (3, .int 0)] → W p l e R s m args below meth c H locs 0 0 Q (F0 m 3 ls []) := by
    intro n
    induction n with
    | zero => intro x3_4_56 z3_0_57 rx3_4_56 rz3_0_57 hm; exact absurd hm (Nat.not_lt_zero _)
    | succ n ih3 =>
      intro x3_4_56 z3_0_57 rx3_4_56 rz3_0_57 hm3 H locs hP hD hS ls hl
      refine lv_iload hx hb dX12_copyRow_3 (lv_at hl 0 rfl) ?_
      refine lv_iload_n hx hb dX12_copyRow_5 rfl (lv_at hl 2 rfl) ?_
      refine lv_icmp_ge (tgt := 31) hx hb dX12_copyRow_6 (by decide) (fun c59 => ?_) (fun c59 => ?_)
      · have q60 := mm_leR (mm_le c59) mm_k210 rx3_4_56
        subst hAe
        rw [hQ]
        exact W.vret hx hb hr (fun t ht hW => ⟨⟨z3_0_57, rfl, rz3_0_57, by rw [ht]; exact hP, hK.warm hW, hD⟩, hS.F ht⟩) hS.2.2 dX12_copyRow_31
      · have q61 := mm_ltL (h := 209) (mm_nle c59) rx3_4_56 mm_k210 (by decide)
        refine lv_aload_n hx hb dX12_copyRow_9 rfl (lv_at hl 1 rfl) ?_
        refine lv_iload_n hx hb dX12_copyRow_10 rfl (lv_at hl 2 rfl) ?_
        refine lv_iload_n hx hb dX12_copyRow_11 rfl (lv_at hl 4 rfl) ?_
        refine lv_imul hx hb dX12_copyRow_12 ?_
        refine lv_topi (fun v62 ev62 => ?_)
        obtain rfl : v62 = 0 := ev62.trans (by decide)
        refine lv_iload hx hb dX12_copyRow_13 (lv_at hl 0 rfl) ?_
        refine lv_iadd hx hb dX12_copyRow_15 ?_
        refine lv_topi (fun v63 ev63 => ?_)
        have rv63 : mm_rg v63 0 209 := mm_add ev63 mm_k0 q61 (by decide) (by decide)
        have tv63 := mm_addE ev63 mm_k0 q61 (by decide)
        refine lv_aload_n hx hb dX12_copyRow_16 rfl (lv_at hl 1 rfl) ?_
        refine lv_iload_n hx hb dX12_copyRow_17 rfl (lv_at hl 2 rfl) ?_
        refine lv_iload_n hx hb dX12_copyRow_18 rfl (lv_at hl 3 rfl) ?_
        refine lv_imul hx hb dX12_copyRow_19 ?_
        refine lv_topi (fun v64 ev64 => ?_)
        obtain rfl : v64 = 840 := ev64.trans (by decide)
        refine lv_iload hx hb dX12_copyRow_20 (lv_at hl 0 rfl) ?_
        refine lv_iadd hx hb dX12_copyRow_22 ?_
        refine lv_topi (fun v65 ev65 => ?_)
        have rv65 : mm_rg v65 840 1049 := mm_add ev65 mm_k840 q61 (by decide) (by decide)
        have tv65 := mm_addE ev65 mm_k840 q61 (by decide)
        refine va_iald hx hb hK.1 hP 0 1 rfl rfl (mm_in rv65 (by decide)) dX12_copyRow_23 ?_
        refine lv_topi (fun v66 ev66 => ?_)
        have rv66 : mm_rg v66 0 0 := mm_eqv ev66 (rz3_0_57 _)
        refine va_iast hx hb hK.1 hP hD hS 0 1 rfl rfl (mm_in rv63 (by decide)) dX12_copyRow_24 ?_
        clear hP hD hS
        clear H locs
        obtain ⟨g67, eg67⟩ : ∃ z : Nat → Int32, z = upd z3_0_57 v63.toNatClampNeg v66 := ⟨_, rfl⟩
        rw [← eg67]
        intro H locs (hP : va_P G vwCl [(a_0, .inl (cy 1, 1050, .inl g67))] H) (hD : va_D A [(a_0, .inl (cy 1, 1050, .inl g67))]) hS
        have rg67 : mm_ar g67 0 0 := by rw [eg67]; exact mm_ar_upd (mm_ar_wk rz3_0_57 (by decide)) (mm_wk rv66 (by decide)) _
        obtain ⟨v68, ev68⟩ : ∃ y : Int32, y = x3_4_56 + 1 := ⟨_, rfl⟩
        refine lv_iinc (v := v68) (lv' := [(4, .int v68), (0, .ref a_0), (1, .int 210), (2, .int 4), (3, .int 0)]) hx hb dX12_copyRow_25 hl (k := 0) rfl (by rw [ev68]; rfl) (by decide) rfl ?_
        clear hl
        clear ls
        intro ls hl
        have rv68 : mm_rg v68 1 210 := mm_add ev68 q61 mm_k1 (by decide) (by decide)
        have tv68 := mm_addE ev68 q61 mm_k1 (by decide)
        refine lv_goto (tgt := 3) hx hb dX12_copyRow_28 (by decide) ?_
        exact ih3 v68 g67 (mm_wk rv68 (by decide)) rg67 (mm_mu hm3 tv68 (by decide) (rv68).2 (by decide)) H locs hP hD hS ls (lv_sub hl [0, 1, 2, 3, 4] rfl)
  exact L3_57 _ 0 (fun _ => 0) (mm_wk mm_k0 (by decide)) (mm_ar_c mm_k0) (Nat.lt_succ_self _) H locs hP hD hS ls (lv_sub hl [0, 1, 2, 3, 4] rfl)

set_option maxHeartbeats 4000000 in
set_option maxRecDepth 100000 in
theorem K84_X12_copyRow (l : Launch) (G : va_G) (cy : Nat → ClassId) (sz : Nat) (a_0 : Nat)   : mm_CV l yX12_copyRow (mm_ws yX12_copyRow cX12_copyRow 5 (none)) ({ frames := 0, cells := 0, slots := 0, locals := 0 } : Room) G cy sz [(a_0, .inl (cy 1, 30, .inl (fun _ => 0)))] [.ref a_0, .int 6, .int 4, .int 0] (fun u : (Nat → Int32) => [(a_0, .inl (cy 1, 30, .inl u))]) (fun u : (Nat → Int32) => mm_ar u 0 0) 0 0 := by
  refine mm_begin (lv := [(0, .ref a_0), (1, .int 6), (2, .int 4), (3, .int 0)]) (by decide) (Nat.le_of_ble_eq_true rfl) rfl ?_
  intro p e s m below meth c A ls R args Q H locs hRe hQ hAe hx hb hr hlocks hml hown hnm hts hsz hA hS hP hK hD hl
  have hRf : R.frames = 0 := by rw [hRe]
  have hRl : R.locals = 0 := by rw [hRe]
  have hRc : R.cells = 0 := by rw [hRe]
  have hRs : R.slots = 0 := by rw [hRe]
  refine lv_iconst (v := 0) hx hb dX12_copyRow_0 (by decide) ?_
  refine lv_istore (lv' := [(4, .int 0), (0, .ref a_0), (1, .int 6), (2, .int 4), (3, .int 0)]) hx hb dX12_copyRow_1 hl (by decide) rfl ?_
  clear hl
  clear ls
  intro ls hl
  have L3_57 : ∀ (n : Nat) (x3_4_56 : Int32) (z3_0_57 : Nat → Int32), mm_rg x3_4_56 0 6 → mm_ar z3_0_57 0 0 → (6 - x3_4_56.toInt).toNat < n → ∀ (H : Heap) (locs : List Loc), va_P G vwCl [(a_0, .inl (cy 1, 30, .inl z3_0_57))] H → va_D A [(a_0, .inl (cy 1, 30, .inl z3_0_57))] → va_S A s.heap H locs → ∀ (ls : Array Slot), lv_has ls 5 [(4, .int x3_4_56), (0, .ref a_0), (1, .int 6), (2, .int 4), (3, .int 0)] → W p l e R s m args below meth c H locs 0 0 Q (F0 m 3 ls []) := by
    intro n
    induction n with
    | zero => intro x3_4_56 z3_0_57 rx3_4_56 rz3_0_57 hm; exact absurd hm (Nat.not_lt_zero _)
    | succ n ih3 =>
      intro x3_4_56 z3_0_57 rx3_4_56 rz3_0_57 hm3 H locs hP hD hS ls hl
      refine lv_iload hx hb dX12_copyRow_3 (lv_at hl 0 rfl) ?_
      refine lv_iload_n hx hb dX12_copyRow_5 rfl (lv_at hl 2 rfl) ?_
      refine lv_icmp_ge (tgt := 31) hx hb dX12_copyRow_6 (by decide) (fun c59 => ?_) (fun c59 => ?_)
      · have q60 := mm_leR (mm_le c59) mm_k6 rx3_4_56
        subst hAe
        rw [hQ]
        exact W.vret hx hb hr (fun t ht hW => ⟨⟨z3_0_57, rfl, rz3_0_57, by rw [ht]; exact hP, hK.warm hW, hD⟩, hS.F ht⟩) hS.2.2 dX12_copyRow_31
      · have q61 := mm_ltL (h := 5) (mm_nle c59) rx3_4_56 mm_k6 (by decide)
        refine lv_aload_n hx hb dX12_copyRow_9 rfl (lv_at hl 1 rfl) ?_
        refine lv_iload_n hx hb dX12_copyRow_10 rfl (lv_at hl 2 rfl) ?_
        refine lv_iload_n hx hb dX12_copyRow_11 rfl (lv_at hl 4 rfl) ?_
        refine lv_imul hx hb dX12_copyRow_12 ?_
        refine lv_topi (fun v62 ev62 => ?_)
        obtain rfl : v62 = 0 := ev62.trans (by decide)
        refine lv_iload hx hb dX12_copyRow_13 (lv_at hl 0 rfl) ?_
        refine lv_iadd hx hb dX12_copyRow_15 ?_
        refine lv_topi (fun v63 ev63 => ?_)
        have rv63 : mm_rg v63 0 5 := mm_add ev63 mm_k0 q61 (by decide) (by decide)
        have tv63 := mm_addE ev63 mm_k0 q61 (by decide)
        refine lv_aload_n hx hb dX12_copyRow_16 rfl (lv_at hl 1 rfl) ?_
        refine lv_iload_n hx hb dX12_copyRow_17 rfl (lv_at hl 2 rfl) ?_
        refine lv_iload_n hx hb dX12_copyRow_18 rfl (lv_at hl 3 rfl) ?_
        refine lv_imul hx hb dX12_copyRow_19 ?_
        refine lv_topi (fun v64 ev64 => ?_)
        obtain rfl : v64 = 24 := ev64.trans (by decide)
        refine lv_iload hx hb dX12_copyRow_20 (lv_at hl 0 rfl) ?_
        refine lv_iadd hx hb dX12_copyRow_22 ?_
        refine lv_topi (fun v65 ev65 => ?_)
        have rv65 : mm_rg v65 24 29 := mm_add ev65 mm_k24 q61 (by decide) (by decide)
        have tv65 := mm_addE ev65 mm_k24 q61 (by decide)
        refine va_iald hx hb hK.1 hP 0 1 rfl rfl (mm_in rv65 (by decide)) dX12_copyRow_23 ?_
        refine lv_topi (fun v66 ev66 => ?_)
        have rv66 : mm_rg v66 0 0 := mm_eqv ev66 (rz3_0_57 _)
        refine va_iast hx hb hK.1 hP hD hS 0 1 rfl rfl (mm_in rv63 (by decide)) dX12_copyRow_24 ?_
        clear hP hD hS
        clear H locs
        obtain ⟨g67, eg67⟩ : ∃ z : Nat → Int32, z = upd z3_0_57 v63.toNatClampNeg v66 := ⟨_, rfl⟩
        rw [← eg67]
        intro H locs (hP : va_P G vwCl [(a_0, .inl (cy 1, 30, .inl g67))] H) (hD : va_D A [(a_0, .inl (cy 1, 30, .inl g67))]) hS
        have rg67 : mm_ar g67 0 0 := by rw [eg67]; exact mm_ar_upd (mm_ar_wk rz3_0_57 (by decide)) (mm_wk rv66 (by decide)) _
        obtain ⟨v68, ev68⟩ : ∃ y : Int32, y = x3_4_56 + 1 := ⟨_, rfl⟩
        refine lv_iinc (v := v68) (lv' := [(4, .int v68), (0, .ref a_0), (1, .int 6), (2, .int 4), (3, .int 0)]) hx hb dX12_copyRow_25 hl (k := 0) rfl (by rw [ev68]; rfl) (by decide) rfl ?_
        clear hl
        clear ls
        intro ls hl
        have rv68 : mm_rg v68 1 6 := mm_add ev68 q61 mm_k1 (by decide) (by decide)
        have tv68 := mm_addE ev68 q61 mm_k1 (by decide)
        refine lv_goto (tgt := 3) hx hb dX12_copyRow_28 (by decide) ?_
        exact ih3 v68 g67 (mm_wk rv68 (by decide)) rg67 (mm_mu hm3 tv68 (by decide) (rv68).2 (by decide)) H locs hP hD hS ls (lv_sub hl [0, 1, 2, 3, 4] rfl)
  exact L3_57 _ 0 (fun _ => 0) (mm_wk mm_k0 (by decide)) (mm_ar_c mm_k0) (Nat.lt_succ_self _) H locs hP hD hS ls (lv_sub hl [0, 1, 2, 3, 4] rfl)

set_option maxHeartbeats 4000000 in
set_option maxRecDepth 100000 in
theorem K85_X12_copyRow (l : Launch) (G : va_G) (cy : Nat → ClassId) (sz : Nat) (a_0 : Nat)   : mm_CV l yX12_copyRow (mm_ws yX12_copyRow cX12_copyRow 5 (none)) ({ frames := 0, cells := 0, slots := 0, locals := 0 } : Room) G cy sz [(a_0, .inl (cy 1, 240, .inl (fun _ => 0)))] [.ref a_0, .int 48, .int 4, .int 0] (fun u : (Nat → Int32) => [(a_0, .inl (cy 1, 240, .inl u))]) (fun u : (Nat → Int32) => mm_ar u 0 0) 0 0 := by
  refine mm_begin (lv := [(0, .ref a_0), (1, .int 48), (2, .int 4), (3, .int 0)]) (by decide) (Nat.le_of_ble_eq_true rfl) rfl ?_
  intro p e s m below meth c A ls R args Q H locs hRe hQ hAe hx hb hr hlocks hml hown hnm hts hsz hA hS hP hK hD hl
  have hRf : R.frames = 0 := by rw [hRe]
  have hRl : R.locals = 0 := by rw [hRe]
  have hRc : R.cells = 0 := by rw [hRe]
  have hRs : R.slots = 0 := by rw [hRe]
  refine lv_iconst (v := 0) hx hb dX12_copyRow_0 (by decide) ?_
  refine lv_istore (lv' := [(4, .int 0), (0, .ref a_0), (1, .int 48), (2, .int 4), (3, .int 0)]) hx hb dX12_copyRow_1 hl (by decide) rfl ?_
  clear hl
  clear ls
  intro ls hl
  have L3_57 : ∀ (n : Nat) (x3_4_56 : Int32) (z3_0_57 : Nat → Int32), mm_rg x3_4_56 0 48 → mm_ar z3_0_57 0 0 → (48 - x3_4_56.toInt).toNat < n → ∀ (H : Heap) (locs : List Loc), va_P G vwCl [(a_0, .inl (cy 1, 240, .inl z3_0_57))] H → va_D A [(a_0, .inl (cy 1, 240, .inl z3_0_57))] → va_S A s.heap H locs → ∀ (ls : Array Slot), lv_has ls 5 [(4, .int x3_4_56), (0, .ref a_0), (1, .int 48), (2, .int 4), (3, .int 0)] → W p l e R s m args below meth c H locs 0 0 Q (F0 m 3 ls []) := by
    intro n
    induction n with
    | zero => intro x3_4_56 z3_0_57 rx3_4_56 rz3_0_57 hm; exact absurd hm (Nat.not_lt_zero _)
    | succ n ih3 =>
      intro x3_4_56 z3_0_57 rx3_4_56 rz3_0_57 hm3 H locs hP hD hS ls hl
      refine lv_iload hx hb dX12_copyRow_3 (lv_at hl 0 rfl) ?_
      refine lv_iload_n hx hb dX12_copyRow_5 rfl (lv_at hl 2 rfl) ?_
      refine lv_icmp_ge (tgt := 31) hx hb dX12_copyRow_6 (by decide) (fun c59 => ?_) (fun c59 => ?_)
      · have q60 := mm_leR (mm_le c59) mm_k48 rx3_4_56
        subst hAe
        rw [hQ]
        exact W.vret hx hb hr (fun t ht hW => ⟨⟨z3_0_57, rfl, rz3_0_57, by rw [ht]; exact hP, hK.warm hW, hD⟩, hS.F ht⟩) hS.2.2 dX12_copyRow_31
      · have q61 := mm_ltL (h := 47) (mm_nle c59) rx3_4_56 mm_k48 (by decide)
        refine lv_aload_n hx hb dX12_copyRow_9 rfl (lv_at hl 1 rfl) ?_
        refine lv_iload_n hx hb dX12_copyRow_10 rfl (lv_at hl 2 rfl) ?_
        refine lv_iload_n hx hb dX12_copyRow_11 rfl (lv_at hl 4 rfl) ?_
        refine lv_imul hx hb dX12_copyRow_12 ?_
        refine lv_topi (fun v62 ev62 => ?_)
        obtain rfl : v62 = 0 := ev62.trans (by decide)
        refine lv_iload hx hb dX12_copyRow_13 (lv_at hl 0 rfl) ?_
        refine lv_iadd hx hb dX12_copyRow_15 ?_
        refine lv_topi (fun v63 ev63 => ?_)
        have rv63 : mm_rg v63 0 47 := mm_add ev63 mm_k0 q61 (by decide) (by decide)
        have tv63 := mm_addE ev63 mm_k0 q61 (by decide)
        refine lv_aload_n hx hb dX12_copyRow_16 rfl (lv_at hl 1 rfl) ?_
        refine lv_iload_n hx hb dX12_copyRow_17 rfl (lv_at hl 2 rfl) ?_
        refine lv_iload_n hx hb dX12_copyRow_18 rfl (lv_at hl 3 rfl) ?_
        refine lv_imul hx hb dX12_copyRow_19 ?_
        refine lv_topi (fun v64 ev64 => ?_)
        obtain rfl : v64 = 192 := ev64.trans (by decide)
        refine lv_iload hx hb dX12_copyRow_20 (lv_at hl 0 rfl) ?_
        refine lv_iadd hx hb dX12_copyRow_22 ?_
        refine lv_topi (fun v65 ev65 => ?_)
        have rv65 : mm_rg v65 192 239 := mm_add ev65 mm_k192 q61 (by decide) (by decide)
        have tv65 := mm_addE ev65 mm_k192 q61 (by decide)
        refine va_iald hx hb hK.1 hP 0 1 rfl rfl (mm_in rv65 (by decide)) dX12_copyRow_23 ?_
        refine lv_topi (fun v66 ev66 => ?_)
        have rv66 : mm_rg v66 0 0 := mm_eqv ev66 (rz3_0_57 _)
        refine va_iast hx hb hK.1 hP hD hS 0 1 rfl rfl (mm_in rv63 (by decide)) dX12_copyRow_24 ?_
        clear hP hD hS
        clear H locs
        obtain ⟨g67, eg67⟩ : ∃ z : Nat → Int32, z = upd z3_0_57 v63.toNatClampNeg v66 := ⟨_, rfl⟩
        rw [← eg67]
        intro H locs (hP : va_P G vwCl [(a_0, .inl (cy 1, 240, .inl g67))] H) (hD : va_D A [(a_0, .inl (cy 1, 240, .inl g67))]) hS
        have rg67 : mm_ar g67 0 0 := by rw [eg67]; exact mm_ar_upd (mm_ar_wk rz3_0_57 (by decide)) (mm_wk rv66 (by decide)) _
        obtain ⟨v68, ev68⟩ : ∃ y : Int32, y = x3_4_56 + 1 := ⟨_, rfl⟩
        refine lv_iinc (v := v68) (lv' := [(4, .int v68), (0, .ref a_0), (1, .int 48), (2, .int 4), (3, .int 0)]) hx hb dX12_copyRow_25 hl (k := 0) rfl (by rw [ev68]; rfl) (by decide) rfl ?_
        clear hl
        clear ls
        intro ls hl
        have rv68 : mm_rg v68 1 48 := mm_add ev68 q61 mm_k1 (by decide) (by decide)
        have tv68 := mm_addE ev68 q61 mm_k1 (by decide)
        refine lv_goto (tgt := 3) hx hb dX12_copyRow_28 (by decide) ?_
        exact ih3 v68 g67 (mm_wk rv68 (by decide)) rg67 (mm_mu hm3 tv68 (by decide) (rv68).2 (by decide)) H locs hP hD hS ls (lv_sub hl [0, 1, 2, 3, 4] rfl)
  exact L3_57 _ 0 (fun _ => 0) (mm_wk mm_k0 (by decide)) (mm_ar_c mm_k0) (Nat.lt_succ_self _) H locs hP hD hS ls (lv_sub hl [0, 1, 2, 3, 4] rfl)

set_option maxHeartbeats 4000000 in
set_option maxRecDepth 100000 in
theorem K86_X12_copyRow (l : Launch) (G : va_G) (cy : Nat → ClassId) (sz : Nat) (a_0 : Nat)   : mm_CV l yX12_copyRow (mm_ws yX12_copyRow cX12_copyRow 5 (none)) ({ frames := 0, cells := 0, slots := 0, locals := 0 } : Room) G cy sz [(a_0, .inl (cy 1, 450, .inl (fun _ => 0)))] [.ref a_0, .int 90, .int 4, .int 0] (fun u : (Nat → Int32) => [(a_0, .inl (cy 1, 450, .inl u))]) (fun u : (Nat → Int32) => mm_ar u 0 0) 0 0 := by
  refine mm_begin (lv := [(0, .ref a_0), (1, .int 90), (2, .int 4), (3, .int 0)]) (by decide) (Nat.le_of_ble_eq_true rfl) rfl ?_
  intro p e s m below meth c A ls R args Q H locs hRe hQ hAe hx hb hr hlocks hml hown hnm hts hsz hA hS hP hK hD hl
  have hRf : R.frames = 0 := by rw [hRe]
  have hRl : R.locals = 0 := by rw [hRe]
  have hRc : R.cells = 0 := by rw [hRe]
  have hRs : R.slots = 0 := by rw [hRe]
  refine lv_iconst (v := 0) hx hb dX12_copyRow_0 (by decide) ?_
  refine lv_istore (lv' := [(4, .int 0), (0, .ref a_0), (1, .int 90), (2, .int 4), (3, .int 0)]) hx hb dX12_copyRow_1 hl (by decide) rfl ?_
  clear hl
  clear ls
  intro ls hl
  have L3_57 : ∀ (n : Nat) (x3_4_56 : Int32) (z3_0_57 : Nat → Int32), mm_rg x3_4_56 0 90 → mm_ar z3_0_57 0 0 → (90 - x3_4_56.toInt).toNat < n → ∀ (H : Heap) (locs : List Loc), va_P G vwCl [(a_0, .inl (cy 1, 450, .inl z3_0_57))] H → va_D A [(a_0, .inl (cy 1, 450, .inl z3_0_57))] → va_S A s.heap H locs → ∀ (ls : Array Slot), lv_has ls 5 [(4, .int x3_4_56), (0, .ref a_0), (1, .int 90), (2, .int 4), (3, .int 0)] → W p l e R s m args below meth c H locs 0 0 Q (F0 m 3 ls []) := by
    intro n
    induction n with
    | zero => intro x3_4_56 z3_0_57 rx3_4_56 rz3_0_57 hm; exact absurd hm (Nat.not_lt_zero _)
    | succ n ih3 =>
      intro x3_4_56 z3_0_57 rx3_4_56 rz3_0_57 hm3 H locs hP hD hS ls hl
      refine lv_iload hx hb dX12_copyRow_3 (lv_at hl 0 rfl) ?_
      refine lv_iload_n hx hb dX12_copyRow_5 rfl (lv_at hl 2 rfl) ?_
      refine lv_icmp_ge (tgt := 31) hx hb dX12_copyRow_6 (by decide) (fun c59 => ?_) (fun c59 => ?_)
      · have q60 := mm_leR (mm_le c59) mm_k90 rx3_4_56
        subst hAe
        rw [hQ]
        exact W.vret hx hb hr (fun t ht hW => ⟨⟨z3_0_57, rfl, rz3_0_57, by rw [ht]; exact hP, hK.warm hW, hD⟩, hS.F ht⟩) hS.2.2 dX12_copyRow_31
      · have q61 := mm_ltL (h := 89) (mm_nle c59) rx3_4_56 mm_k90 (by decide)
        refine lv_aload_n hx hb dX12_copyRow_9 rfl (lv_at hl 1 rfl) ?_
        refine lv_iload_n hx hb dX12_copyRow_10 rfl (lv_at hl 2 rfl) ?_
        refine lv_iload_n hx hb dX12_copyRow_11 rfl (lv_at hl 4 rfl) ?_
        refine lv_imul hx hb dX12_copyRow_12 ?_
        refine lv_topi (fun v62 ev62 => ?_)
        obtain rfl : v62 = 0 := ev62.trans (by decide)
        refine lv_iload hx hb dX12_copyRow_13 (lv_at hl 0 rfl) ?_
        refine lv_iadd hx hb dX12_copyRow_15 ?_
        refine lv_topi (fun v63 ev63 => ?_)
        have rv63 : mm_rg v63 0 89 := mm_add ev63 mm_k0 q61 (by decide) (by decide)
        have tv63 := mm_addE ev63 mm_k0 q61 (by decide)
        refine lv_aload_n hx hb dX12_copyRow_16 rfl (lv_at hl 1 rfl) ?_
        refine lv_iload_n hx hb dX12_copyRow_17 rfl (lv_at hl 2 rfl) ?_
        refine lv_iload_n hx hb dX12_copyRow_18 rfl (lv_at hl 3 rfl) ?_
        refine lv_imul hx hb dX12_copyRow_19 ?_
        refine lv_topi (fun v64 ev64 => ?_)
        obtain rfl : v64 = 360 := ev64.trans (by decide)
        refine lv_iload hx hb dX12_copyRow_20 (lv_at hl 0 rfl) ?_
        refine lv_iadd hx hb dX12_copyRow_22 ?_
        refine lv_topi (fun v65 ev65 => ?_)
        have rv65 : mm_rg v65 360 449 := mm_add ev65 mm_k360 q61 (by decide) (by decide)
        have tv65 := mm_addE ev65 mm_k360 q61 (by decide)
        refine va_iald hx hb hK.1 hP 0 1 rfl rfl (mm_in rv65 (by decide)) dX12_copyRow_23 ?_
        refine lv_topi (fun v66 ev66 => ?_)
        have rv66 : mm_rg v66 0 0 := mm_eqv ev66 (rz3_0_57 _)
        refine va_iast hx hb hK.1 hP hD hS 0 1 rfl rfl (mm_in rv63 (by decide)) dX12_copyRow_24 ?_
        clear hP hD hS
        clear H locs
        obtain ⟨g67, eg67⟩ : ∃ z : Nat → Int32, z = upd z3_0_57 v63.toNatClampNeg v66 := ⟨_, rfl⟩
        rw [← eg67]
        intro H locs (hP : va_P G vwCl [(a_0, .inl (cy 1, 450, .inl g67))] H) (hD : va_D A [(a_0, .inl (cy 1, 450, .inl g67))]) hS
        have rg67 : mm_ar g67 0 0 := by rw [eg67]; exact mm_ar_upd (mm_ar_wk rz3_0_57 (by decide)) (mm_wk rv66 (by decide)) _
        obtain ⟨v68, ev68⟩ : ∃ y : Int32, y = x3_4_56 + 1 := ⟨_, rfl⟩
        refine lv_iinc (v := v68) (lv' := [(4, .int v68), (0, .ref a_0), (1, .int 90), (2, .int 4), (3, .int 0)]) hx hb dX12_copyRow_25 hl (k := 0) rfl (by rw [ev68]; rfl) (by decide) rfl ?_
        clear hl
        clear ls
        intro ls hl
        have rv68 : mm_rg v68 1 90 := mm_add ev68 q61 mm_k1 (by decide) (by decide)
        have tv68 := mm_addE ev68 q61 mm_k1 (by decide)
        refine lv_goto (tgt := 3) hx hb dX12_copyRow_28 (by decide) ?_
        exact ih3 v68 g67 (mm_wk rv68 (by decide)) rg67 (mm_mu hm3 tv68 (by decide) (rv68).2 (by decide)) H locs hP hD hS ls (lv_sub hl [0, 1, 2, 3, 4] rfl)
  exact L3_57 _ 0 (fun _ => 0) (mm_wk mm_k0 (by decide)) (mm_ar_c mm_k0) (Nat.lt_succ_self _) H locs hP hD hS ls (lv_sub hl [0, 1, 2, 3, 4] rfl)

set_option maxHeartbeats 4000000 in
set_option maxRecDepth 100000 in
theorem K87_X12_copyBook (l : Launch) (G : va_G) (cy : Nat → ClassId) (sz : Nat) (a_0 : Nat) (k_0 : Int32) (a_1 : Nat) (a_2 : Nat) (a_3 : Nat) (a_4 : Nat) (a_5 : Nat) (k_1 : Int32) (k_2 : Int32) (k_3 : Int32) (k_4 : Int32) (k_5 : Int32) (k_6 : Int64) (k_7 : Int32) (k_8 : Int32) (k_9 : Int32) (k_10 : Int32) (a_6 : Nat) (a_7 : Nat) (a_8 : Nat) (a_9 : Nat) (a_10 : Nat) (a_11 : Nat) (a_12 : Nat) (a_13 : Nat) (a_14 : Nat) (a_15 : Nat) (a_16 : Nat) (a_17 : Nat) (a_18 : Nat) (k_11 : Int32) (k_12 : Int32) (k_13 : Int32) (k_14 : Int32) (k_15 : Int32) (k_16 : Int32) (a_19 : Nat) (k_17 : Int32) (a_20 : Nat) (f_0 : Nat → Int32) (f_1 : Nat → Int32) (f_2 : Nat → Int32) (h0 : mm_ar f_0 0 0) (h1 : mm_ar f_1 0 0) (h2 : mm_ar f_2 0 0)  : mm_CV l yX12_copyBook (mm_ws yX12_copyBook cX12_copyBook 3 (none)) ({ frames := 1, cells := 0, slots := 0, locals := 24 } : Room) G cy sz [(a_0, .inr (12, [.int k_0, .ref a_1, .ref a_2, .ref a_3, .ref a_4, .ref a_5, .int k_1, .int k_2, .int k_3, .int k_4, .int k_5, .long k_6, .int k_7, .int k_8, .int k_9, .int k_10, .ref a_6, .ref a_7, .ref a_8, .ref a_9, .ref a_10, .ref a_11, .ref a_12, .ref a_13, .ref a_14, .ref a_15, .ref a_16, .ref a_17, .ref a_18, .int k_11, .int k_12, .int k_13, .int k_14, .int k_15, .int k_16, .ref a_19, .int k_17, .ref a_20])), (a_6, .inl (cy 1, 5, .inl f_0)), (a_7, .inl (cy 1, 30, .inl f_1)), (a_8, .inl (cy 1, 90, .inl (fun _ => 0))), (a_9, .inl (cy 1, 15, .inl f_2)), (a_10, .inl (cy 1, 1050, .inl (fun _ => 0))), (a_11, .inl (cy 1, 30, .inl (fun _ => 0))), (a_12, .inl (cy 1, 240, .inl (fun _ => 0))), (a_13, .inl (cy 1, 450, .inl (fun _ => 0)))] [.ref a_0, .int 4, .int 0] (fun u : (Nat → Int32) × (Nat → Int32) × (Nat → Int32) × (Nat → Int32) × (Nat → Int32) × (Nat → Int32) × (Nat → Int32) × (Nat → Int32) => [(a_0, .inr (12, [.int k_0, .ref a_1, .ref a_2, .ref a_3, .ref a_4, .ref a_5, .int k_1, .int k_2, .int k_3, .int k_4, .int k_5, .long k_6, .int k_7, .int k_8, .int k_9, .int k_10, .ref a_6, .ref a_7, .ref a_8, .ref a_9, .ref a_10, .ref a_11, .ref a_12, .ref a_13, .ref a_14, .ref a_15, .ref a_16, .ref a_17, .ref a_18, .int k_11, .int k_12, .int k_13, .int k_14, .int k_15, .int k_16, .ref a_19, .int k_17, .ref a_20])), (a_6, .inl (cy 1, 5, .inl u.1)), (a_7, .inl (cy 1, 30, .inl u.2.1)), (a_8, .inl (cy 1, 90, .inl u.2.2.1)), (a_9, .inl (cy 1, 15, .inl u.2.2.2.1)), (a_10, .inl (cy 1, 1050, .inl u.2.2.2.2.1)), (a_11, .inl (cy 1, 30, .inl u.2.2.2.2.2.1)), (a_12, .inl (cy 1, 240, .inl u.2.2.2.2.2.2.1)), (a_13, .inl (cy 1, 450, .inl u.2.2.2.2.2.2.2))]) (fun u : (Nat → Int32) × (Nat → Int32) × (Nat → Int32) × (Nat → Int32) × (Nat → Int32) × (Nat → Int32) × (Nat → Int32) × (Nat → Int32) => mm_ar u.1 0 0 ∧ mm_ar u.2.1 0 0 ∧ mm_ar u.2.2.1 0 0 ∧ mm_ar u.2.2.2.1 0 0 ∧ mm_ar u.2.2.2.2.1 0 0 ∧ mm_ar u.2.2.2.2.2.1 0 0 ∧ mm_ar u.2.2.2.2.2.2.1 0 0 ∧ mm_ar u.2.2.2.2.2.2.2 0 0) 0 0 := by
  refine mm_begin (lv := [(0, .ref a_0), (1, .int 4), (2, .int 0)]) (by decide) (Nat.le_of_ble_eq_true rfl) rfl ?_
  intro p e s m below meth c A ls R args Q H locs hRe hQ hAe hx hb hr hlocks hml hown hnm hts hsz hA hS hP hK hD hl
  have hRf : R.frames = 1 := by rw [hRe]
  have hRl : R.locals = 24 := by rw [hRe]
  have hRc : R.cells = 0 := by rw [hRe]
  have hRs : R.slots = 0 := by rw [hRe]
  refine lv_aload_n hx hb dX12_copyBook_0 rfl (lv_at hl 0 rfl) ?_
  refine va_get (D := G) (ci := 12) (v := .ref a_6) (C := RX12) (T := TX12) (N := 38) hx hb hts (mm_i inlX12) hown hK.1 hP 0 rfl rfl 16 (by decide) (mm_h hts mm_w148) (fun _ h9 => h9) rfl dX12_copyBook_1 ?_
  refine lv_iconst (v := 1) hx hb dX12_copyBook_4 (by decide) ?_
  refine lv_iload_n hx hb dX12_copyBook_5 rfl (lv_at hl 1 rfl) ?_
  refine lv_iload_n hx hb dX12_copyBook_6 rfl (lv_at hl 2 rfl) ?_
  refine mm_finv (va_runS (As := [.ref a_6, .int 1, .int 4, .int 0]) (rest := []) ⟨hx, hb, hml, hown, hts⟩ (K79_X12_copyRow l G cy H.size a_6 f_0 h0) (va_cwS 4 hts (mm_gS mm_w557 mm_w558 mm_w5 mm_w559) rfl rfl rfl hs_X12_copyRow ⟨by rw [hRf]; exact Nat.le_of_ble_eq_true rfl, by rw [hRl]; exact Nat.le_of_ble_eq_true rfl⟩) (mm_preS hK hP hD [1] rfl rfl) rfl rfl hl.1 rfl (lv_room (Nat.le_of_ble_eq_true rfl)) dX12_copyBook_7 ⟨by rw [hRc]; exact Nat.le_of_ble_eq_true rfl, by rw [hRs]; exact Nat.le_of_ble_eq_true rfl⟩) hP hD hS hA (fun u : (Nat → Int32) => [(a_0, .inr (12, [.int k_0, .ref a_1, .ref a_2, .ref a_3, .ref a_4, .ref a_5, .int k_1, .int k_2, .int k_3, .int k_4, .int k_5, .long k_6, .int k_7, .int k_8, .int k_9, .int k_10, .ref a_6, .ref a_7, .ref a_8, .ref a_9, .ref a_10, .ref a_11, .ref a_12, .ref a_13, .ref a_14, .ref a_15, .ref a_16, .ref a_17, .ref a_18, .int k_11, .int k_12, .int k_13, .int k_14, .int k_15, .int k_16, .ref a_19, .int k_17, .ref a_20])), (a_6, .inl (cy 1, 5, .inl u)), (a_7, .inl (cy 1, 30, .inl f_1)), (a_8, .inl (cy 1, 90, .inl (fun _ => 0))), (a_9, .inl (cy 1, 15, .inl f_2)), (a_10, .inl (cy 1, 1050, .inl (fun _ => 0))), (a_11, .inl (cy 1, 30, .inl (fun _ => 0))), (a_12, .inl (cy 1, 240, .inl (fun _ => 0))), (a_13, .inl (cy 1, 450, .inl (fun _ => 0)))]) [1] [0, 2, 3, 4, 5, 6, 7, 8] (n := 9) (fun _ => rfl) (by decide +kernel) (by decide +kernel) rfl (fun _ => rfl) (wr := [(a_0, .inr (12, [.int k_0, .ref a_1, .ref a_2, .ref a_3, .ref a_4, .ref a_5, .int k_1, .int k_2, .int k_3, .int k_4, .int k_5, .long k_6, .int k_7, .int k_8, .int k_9, .int k_10, .ref a_6, .ref a_7, .ref a_8, .ref a_9, .ref a_10, .ref a_11, .ref a_12, .ref a_13, .ref a_14, .ref a_15, .ref a_16, .ref a_17, .ref a_18, .int k_11, .int k_12, .int k_13, .int k_14, .int k_15, .int k_16, .ref a_19, .int k_17, .ref a_20])), (a_7, .inl (cy 1, 30, .inl f_1)), (a_8, .inl (cy 1, 90, .inl (fun _ => 0))), (a_9, .inl (cy 1, 15, .inl f_2)), (a_10, .inl (cy 1, 1050, .inl (fun _ => 0))), (a_11, .inl (cy 1, 30, .inl (fun _ => 0))), (a_12, .inl (cy 1, 240, .inl (fun _ => 0))), (a_13, .inl (cy 1, 450, .inl (fun _ => 0)))]) rfl (fun _ => rfl) (fun _ => rfl) ?_
  clear hP hD hS
  clear H locs
  intro n1 H locs hw (hP : va_P G vwCl [(a_0, .inr (12, [.int k_0, .ref a_1, .ref a_2, .ref a_3, .ref a_4, .ref a_5, .int k_1, .int k_2, .int k_3, .int k_4, .int k_5, .long k_6, .int k_7, .int k_8, .int k_9, .int k_10, .ref a_6, .ref a_7, .ref a_8, .ref a_9, .ref a_10, .ref a_11, .ref a_12, .ref a_13, .ref a_14, .ref a_15, .ref a_16, .ref a_17, .ref a_18, .int k_11, .int k_12, .int k_13, .int k_14, .int k_15, .int k_16, .ref a_19, .int k_17, .ref a_20])), (a_6, .inl (cy 1, 5, .inl n1)), (a_7, .inl (cy 1, 30, .inl f_1)), (a_8, .inl (cy 1, 90, .inl (fun _ => 0))), (a_9, .inl (cy 1, 15, .inl f_2)), (a_10, .inl (cy 1, 1050, .inl (fun _ => 0))), (a_11, .inl (cy 1, 30, .inl (fun _ => 0))), (a_12, .inl (cy 1, 240, .inl (fun _ => 0))), (a_13, .inl (cy 1, 450, .inl (fun _ => 0)))] H) (hD : va_D A [(a_0, .inr (12, [.int k_0, .ref a_1, .ref a_2, .ref a_3, .ref a_4, .ref a_5, .int k_1, .int k_2, .int k_3, .int k_4, .int k_5, .long k_6, .int k_7, .int k_8, .int k_9, .int k_10, .ref a_6, .ref a_7, .ref a_8, .ref a_9, .ref a_10, .ref a_11, .ref a_12, .ref a_13, .ref a_14, .ref a_15, .ref a_16, .ref a_17, .ref a_18, .int k_11, .int k_12, .int k_13, .int k_14, .int k_15, .int k_16, .ref a_19, .int k_17, .ref a_20])), (a_6, .inl (cy 1, 5, .inl n1)), (a_7, .inl (cy 1, 30, .inl f_1)), (a_8, .inl (cy 1, 90, .inl (fun _ => 0))), (a_9, .inl (cy 1, 15, .inl f_2)), (a_10, .inl (cy 1, 1050, .inl (fun _ => 0))), (a_11, .inl (cy 1, 30, .inl (fun _ => 0))), (a_12, .inl (cy 1, 240, .inl (fun _ => 0))), (a_13, .inl (cy 1, 450, .inl (fun _ => 0)))]) hS
  have w2 := hw
  refine lv_aload_n hx hb dX12_copyBook_10 rfl (lv_at hl 0 rfl) ?_
  refine va_get (D := G) (ci := 12) (v := .ref a_7) (C := RX12) (T := TX12) (N := 38) hx hb hts (mm_i inlX12) hown hK.1 hP 0 rfl rfl 17 (by decide) (mm_h hts mm_w149) (fun _ h9 => h9) rfl dX12_copyBook_11 ?_
  refine lv_bipush (v := 6) hx hb dX12_copyBook_14 (by decide) ?_
  refine lv_iload_n hx hb dX12_copyBook_16 rfl (lv_at hl 1 rfl) ?_
  refine lv_iload_n hx hb dX12_copyBook_17 rfl (lv_at hl 2 rfl) ?_
  refine mm_finv (va_runS (As := [.ref a_7, .int 6, .int 4, .int 0]) (rest := []) ⟨hx, hb, hml, hown, hts⟩ (K80_X12_copyRow l G cy H.size a_7 f_1 h1) (va_cwS 4 hts (mm_gS mm_w557 mm_w558 mm_w5 mm_w559) rfl rfl rfl hs_X12_copyRow ⟨by rw [hRf]; exact Nat.le_of_ble_eq_true rfl, by rw [hRl]; exact Nat.le_of_ble_eq_true rfl⟩) (mm_preS hK hP hD [2] rfl rfl) rfl rfl hl.1 rfl (lv_room (Nat.le_of_ble_eq_true rfl)) dX12_copyBook_18 ⟨by rw [hRc]; exact Nat.le_of_ble_eq_true rfl, by rw [hRs]; exact Nat.le_of_ble_eq_true rfl⟩) hP hD hS hA (fun u : (Nat → Int32) => [(a_0, .inr (12, [.int k_0, .ref a_1, .ref a_2, .ref a_3, .ref a_4, .ref a_5, .int k_1, .int k_2, .int k_3, .int k_4, .int k_5, .long k_6, .int k_7, .int k_8, .int k_9, .int k_10, .ref a_6, .ref a_7, .ref a_8, .ref a_9, .ref a_10, .ref a_11, .ref a_12, .ref a_13, .ref a_14, .ref a_15, .ref a_16, .ref a_17, .ref a_18, .int k_11, .int k_12, .int k_13, .int k_14, .int k_15, .int k_16, .ref a_19, .int k_17, .ref a_20])), (a_6, .inl (cy 1, 5, .inl n1)), (a_7, .inl (cy 1, 30, .inl u)), (a_8, .inl (cy 1, 90, .inl (fun _ => 0))), (a_9, .inl (cy 1, 15, .inl f_2)), (a_10, .inl (cy 1, 1050, .inl (fun _ => 0))), (a_11, .inl (cy 1, 30, .inl (fun _ => 0))), (a_12, .inl (cy 1, 240, .inl (fun _ => 0))), (a_13, .inl (cy 1, 450, .inl (fun _ => 0)))]) [2] [0, 1, 3, 4, 5, 6, 7, 8] (n := 9) (fun _ => rfl) (by decide +kernel) (by decide +kernel) rfl (fun _ => rfl) (wr := [(a_0, .inr (12, [.int k_0, .ref a_1, .ref a_2, .ref a_3, .ref a_4, .ref a_5, .int k_1, .int k_2, .int k_3, .int k_4, .int k_5, .long k_6, .int k_7, .int k_8, .int k_9, .int k_10, .ref a_6, .ref a_7, .ref a_8, .ref a_9, .ref a_10, .ref a_11, .ref a_12, .ref a_13, .ref a_14, .ref a_15, .ref a_16, .ref a_17, .ref a_18, .int k_11, .int k_12, .int k_13, .int k_14, .int k_15, .int k_16, .ref a_19, .int k_17, .ref a_20])), (a_6, .inl (cy 1, 5, .inl n1)), (a_8, .inl (cy 1, 90, .inl (fun _ => 0))), (a_9, .inl (cy 1, 15, .inl f_2)), (a_10, .inl (cy 1, 1050, .inl (fun _ => 0))), (a_11, .inl (cy 1, 30, .inl (fun _ => 0))), (a_12, .inl (cy 1, 240, .inl (fun _ => 0))), (a_13, .inl (cy 1, 450, .inl (fun _ => 0)))]) rfl (fun _ => rfl) (fun _ => rfl) ?_
  clear hP hD hS
  clear H locs
  intro n3 H locs hw (hP : va_P G vwCl [(a_0, .inr (12, [.int k_0, .ref a_1, .ref a_2, .ref a_3, .ref a_4, .ref a_5, .int k_1, .int k_2, .int k_3, .int k_4, .int k_5, .long k_6, .int k_7, .int k_8, .int k_9, .int k_10, .ref a_6, .ref a_7, .ref a_8, .ref a_9, .ref a_10, .ref a_11, .ref a_12, .ref a_13, .ref a_14, .ref a_15, .ref a_16, .ref a_17, .ref a_18, .int k_11, .int k_12, .int k_13, .int k_14, .int k_15, .int k_16, .ref a_19, .int k_17, .ref a_20])), (a_6, .inl (cy 1, 5, .inl n1)), (a_7, .inl (cy 1, 30, .inl n3)), (a_8, .inl (cy 1, 90, .inl (fun _ => 0))), (a_9, .inl (cy 1, 15, .inl f_2)), (a_10, .inl (cy 1, 1050, .inl (fun _ => 0))), (a_11, .inl (cy 1, 30, .inl (fun _ => 0))), (a_12, .inl (cy 1, 240, .inl (fun _ => 0))), (a_13, .inl (cy 1, 450, .inl (fun _ => 0)))] H) (hD : va_D A [(a_0, .inr (12, [.int k_0, .ref a_1, .ref a_2, .ref a_3, .ref a_4, .ref a_5, .int k_1, .int k_2, .int k_3, .int k_4, .int k_5, .long k_6, .int k_7, .int k_8, .int k_9, .int k_10, .ref a_6, .ref a_7, .ref a_8, .ref a_9, .ref a_10, .ref a_11, .ref a_12, .ref a_13, .ref a_14, .ref a_15, .ref a_16, .ref a_17, .ref a_18, .int k_11, .int k_12, .int k_13, .int k_14, .int k_15, .int k_16, .ref a_19, .int k_17, .ref a_20])), (a_6, .inl (cy 1, 5, .inl n1)), (a_7, .inl (cy 1, 30, .inl n3)), (a_8, .inl (cy 1, 90, .inl (fun _ => 0))), (a_9, .inl (cy 1, 15, .inl f_2)), (a_10, .inl (cy 1, 1050, .inl (fun _ => 0))), (a_11, .inl (cy 1, 30, .inl (fun _ => 0))), (a_12, .inl (cy 1, 240, .inl (fun _ => 0))), (a_13, .inl (cy 1, 450, .inl (fun _ => 0)))]) hS
  have w4 := hw
  refine lv_aload_n hx hb dX12_copyBook_21 rfl (lv_at hl 0 rfl) ?_
  refine va_get (D := G) (ci := 12) (v := .ref a_8) (C := RX12) (T := TX12) (N := 38) hx hb hts (mm_i inlX12) hown hK.1 hP 0 rfl rfl 18 (by decide) (mm_h hts mm_w150) (fun _ h9 => h9) rfl dX12_copyBook_22 ?_
  refine lv_bipush (v := 18) hx hb dX12_copyBook_25 (by decide) ?_
  refine lv_iload_n hx hb dX12_copyBook_27 rfl (lv_at hl 1 rfl) ?_
  refine lv_iload_n hx hb dX12_copyBook_28 rfl (lv_at hl 2 rfl) ?_
  refine mm_finv (va_runS (As := [.ref a_8, .int 18, .int 4, .int 0]) (rest := []) ⟨hx, hb, hml, hown, hts⟩ (K81_X12_copyRow l G cy H.size a_8 ) (va_cwS 4 hts (mm_gS mm_w557 mm_w558 mm_w5 mm_w559) rfl rfl rfl hs_X12_copyRow ⟨by rw [hRf]; exact Nat.le_of_ble_eq_true rfl, by rw [hRl]; exact Nat.le_of_ble_eq_true rfl⟩) (mm_preS hK hP hD [3] rfl rfl) rfl rfl hl.1 rfl (lv_room (Nat.le_of_ble_eq_true rfl)) dX12_copyBook_29 ⟨by rw [hRc]; exact Nat.le_of_ble_eq_true rfl, by rw [hRs]; exact Nat.le_of_ble_eq_true rfl⟩) hP hD hS hA (fun u : (Nat → Int32) => [(a_0, .inr (12, [.int k_0, .ref a_1, .ref a_2, .ref a_3, .ref a_4, .ref a_5, .int k_1, .int k_2, .int k_3, .int k_4, .int k_5, .long k_6, .int k_7, .int k_8, .int k_9, .int k_10, .ref a_6, .ref a_7, .ref a_8, .ref a_9, .ref a_10, .ref a_11, .ref a_12, .ref a_13, .ref a_14, .ref a_15, .ref a_16, .ref a_17, .ref a_18, .int k_11, .int k_12, .int k_13, .int k_14, .int k_15, .int k_16, .ref a_19, .int k_17, .ref a_20])), (a_6, .inl (cy 1, 5, .inl n1)), (a_7, .inl (cy 1, 30, .inl n3)), (a_8, .inl (cy 1, 90, .inl u)), (a_9, .inl (cy 1, 15, .inl f_2)), (a_10, .inl (cy 1, 1050, .inl (fun _ => 0))), (a_11, .inl (cy 1, 30, .inl (fun _ => 0))), (a_12, .inl (cy 1, 240, .inl (fun _ => 0))), (a_13, .inl (cy 1, 450, .inl (fun _ => 0)))]) [3] [0, 1, 2, 4, 5, 6, 7, 8] (n := 9) (fun _ => rfl) (by decide +kernel) (by decide +kernel) rfl (fun _ => rfl) (wr := [(a_0, .inr (12, [.int k_0, .ref a_1, .ref a_2, .ref a_3, .ref a_4, .ref a_5, .int k_1, .int k_2, .int k_3, .int k_4, .int k_5, .long k_6, .int k_7, .int k_8, .int k_9, .int k_10, .ref a_6, .ref a_7, .ref a_8, .ref a_9, .ref a_10, .ref a_11, .ref a_12, .ref a_13, .ref a_14, .ref a_15, .ref a_16, .ref a_17, .ref a_18, .int k_11, .int k_12, .int k_13, .int k_14, .int k_15, .int k_16, .ref a_19, .int k_17, .ref a_20])), (a_6, .inl (cy 1, 5, .inl n1)), (a_7, .inl (cy 1, 30, .inl n3)), (a_9, .inl (cy 1, 15, .inl f_2)), (a_10, .inl (cy 1, 1050, .inl (fun _ => 0))), (a_11, .inl (cy 1, 30, .inl (fun _ => 0))), (a_12, .inl (cy 1, 240, .inl (fun _ => 0))), (a_13, .inl (cy 1, 450, .inl (fun _ => 0)))]) rfl (fun _ => rfl) (fun _ => rfl) ?_
  clear hP hD hS
  clear H locs
  intro n5 H locs hw (hP : va_P G vwCl [(a_0, .inr (12, [.int k_0, .ref a_1, .ref a_2, .ref a_3, .ref a_4, .ref a_5, .int k_1, .int k_2, .int k_3, .int k_4, .int k_5, .long k_6, .int k_7, .int k_8, .int k_9, .int k_10, .ref a_6, .ref a_7, .ref a_8, .ref a_9, .ref a_10, .ref a_11, .ref a_12, .ref a_13, .ref a_14, .ref a_15, .ref a_16, .ref a_17, .ref a_18, .int k_11, .int k_12, .int k_13, .int k_14, .int k_15, .int k_16, .ref a_19, .int k_17, .ref a_20])), (a_6, .inl (cy 1, 5, .inl n1)), (a_7, .inl (cy 1, 30, .inl n3)), (a_8, .inl (cy 1, 90, .inl n5)), (a_9, .inl (cy 1, 15, .inl f_2)), (a_10, .inl (cy 1, 1050, .inl (fun _ => 0))), (a_11, .inl (cy 1, 30, .inl (fun _ => 0))), (a_12, .inl (cy 1, 240, .inl (fun _ => 0))), (a_13, .inl (cy 1, 450, .inl (fun _ => 0)))] H) (hD : va_D A [(a_0, .inr (12, [.int k_0, .ref a_1, .ref a_2, .ref a_3, .ref a_4, .ref a_5, .int k_1, .int k_2, .int k_3, .int k_4, .int k_5, .long k_6, .int k_7, .int k_8, .int k_9, .int k_10, .ref a_6, .ref a_7, .ref a_8, .ref a_9, .ref a_10, .ref a_11, .ref a_12, .ref a_13, .ref a_14, .ref a_15, .ref a_16, .ref a_17, .ref a_18, .int k_11, .int k_12, .int k_13, .int k_14, .int k_15, .int k_16, .ref a_19, .int k_17, .ref a_20])), (a_6, .inl (cy 1, 5, .inl n1)), (a_7, .inl (cy 1, 30, .inl n3)), (a_8, .inl (cy 1, 90, .inl n5)), (a_9, .inl (cy 1, 15, .inl f_2)), (a_10, .inl (cy 1, 1050, .inl (fun _ => 0))), (a_11, .inl (cy 1, 30, .inl (fun _ => 0))), (a_12, .inl (cy 1, 240, .inl (fun _ => 0))), (a_13, .inl (cy 1, 450, .inl (fun _ => 0)))]) hS
  have w6 := hw
  refine lv_aload_n hx hb dX12_copyBook_32 rfl (lv_at hl 0 rfl) ?_
  refine va_get (D := G) (ci := 12) (v := .ref a_9) (C := RX12) (T := TX12) (N := 38) hx hb hts (mm_i inlX12) hown hK.1 hP 0 rfl rfl 19 (by decide) (mm_h hts mm_w151) (fun _ h9 => h9) rfl dX12_copyBook_33 ?_
  refine lv_iconst (v := 3) hx hb dX12_copyBook_36 (by decide) ?_
  refine lv_iload_n hx hb dX12_copyBook_37 rfl (lv_at hl 1 rfl) ?_
  refine lv_iload_n hx hb dX12_copyBook_38 rfl (lv_at hl 2 rfl) ?_
  refine mm_finv (va_runS (As := [.ref a_9, .int 3, .int 4, .int 0]) (rest := []) ⟨hx, hb, hml, hown, hts⟩ (K82_X12_copyRow l G cy H.size a_9 f_2 h2) (va_cwS 4 hts (mm_gS mm_w557 mm_w558 mm_w5 mm_w559) rfl rfl rfl hs_X12_copyRow ⟨by rw [hRf]; exact Nat.le_of_ble_eq_true rfl, by rw [hRl]; exact Nat.le_of_ble_eq_true rfl⟩) (mm_preS hK hP hD [4] rfl rfl) rfl rfl hl.1 rfl (lv_room (Nat.le_of_ble_eq_true rfl)) dX12_copyBook_39 ⟨by rw [hRc]; exact Nat.le_of_ble_eq_true rfl, by rw [hRs]; exact Nat.le_of_ble_eq_true rfl⟩) hP hD hS hA (fun u : (Nat → Int32) => [(a_0, .inr (12, [.int k_0, .ref a_1, .ref a_2, .ref a_3, .ref a_4, .ref a_5, .int k_1, .int k_2, .int k_3, .int k_4, .int k_5, .long k_6, .int k_7, .int k_8, .int k_9, .int k_10, .ref a_6, .ref a_7, .ref a_8, .ref a_9, .ref a_10, .ref a_11, .ref a_12, .ref a_13, .ref a_14, .ref a_15, .ref a_16, .ref a_17, .ref a_18, .int k_11, .int k_12, .int k_13, .int k_14, .int k_15, .int k_16, .ref a_19, .int k_17, .ref a_20])), (a_6, .inl (cy 1, 5, .inl n1)), (a_7, .inl (cy 1, 30, .inl n3)), (a_8, .inl (cy 1, 90, .inl n5)), (a_9, .inl (cy 1, 15, .inl u)), (a_10, .inl (cy 1, 1050, .inl (fun _ => 0))), (a_11, .inl (cy 1, 30, .inl (fun _ => 0))), (a_12, .inl (cy 1, 240, .inl (fun _ => 0))), (a_13, .inl (cy 1, 450, .inl (fun _ => 0)))]) [4] [0, 1, 2, 3, 5, 6, 7, 8] (n := 9) (fun _ => rfl) (by decide +kernel) (by decide +kernel) rfl (fun _ => rfl) (wr := [(a_0, .inr (12, [.int k_0, .ref a_1, .ref a_2, .ref a_3, .ref a_4, .ref a_5, .int k_1, .int k_2, .int k_3, .int k_4, .int k_5, .long k_6, .int k_7, .int k_8, .int k_9, .int k_10, .ref a_6, .ref a_7, .ref a_8, .ref a_9, .ref a_10, .ref a_11, .ref a_12, .ref a_13, .ref a_14, .ref a_15, .ref a_16, .ref a_17, .ref a_18, .int k_11, .int k_12, .int k_13, .int k_14, .int k_15, .int k_16, .ref a_19, .int k_17, .ref a_20])), (a_6, .inl (cy 1, 5, .inl n1)), (a_7, .inl (cy 1, 30, .inl n3)), (a_8, .inl (cy 1, 90, .inl n5)), (a_10, .inl (cy 1, 1050, .inl (fun _ => 0))), (a_11, .inl (cy 1, 30, .inl (fun _ => 0))), (a_12, .inl (cy 1, 240, .inl (fun _ => 0))), (a_13, .inl (cy 1, 450, .inl (fun _ => 0)))]) rfl (fun _ => rfl) (fun _ => rfl) ?_
  clear hP hD hS
  clear H locs
  intro n7 H locs hw (hP : va_P G vwCl [(a_0, .inr (12, [.int k_0, .ref a_1, .ref a_2, .ref a_3, .ref a_4, .ref a_5, .int k_1, .int k_2, .int k_3, .int k_4, .int k_5, .long k_6, .int k_7, .int k_8, .int k_9, .int k_10, .ref a_6, .ref a_7, .ref a_8, .ref a_9, .ref a_10, .ref a_11, .ref a_12, .ref a_13, .ref a_14, .ref a_15, .ref a_16, .ref a_17, .ref a_18, .int k_11, .int k_12, .int k_13, .int k_14, .int k_15, .int k_16, .ref a_19, .int k_17, .ref a_20])), (a_6, .inl (cy 1, 5, .inl n1)), (a_7, .inl (cy 1, 30, .inl n3)), (a_8, .inl (cy 1, 90, .inl n5)), (a_9, .inl (cy 1, 15, .inl n7)), (a_10, .inl (cy 1, 1050, .inl (fun _ => 0))), (a_11, .inl (cy 1, 30, .inl (fun _ => 0))), (a_12, .inl (cy 1, 240, .inl (fun _ => 0))), (a_13, .inl (cy 1, 450, .inl (fun _ => 0)))] H) (hD : va_D A [(a_0, .inr (12, [.int k_0, .ref a_1, .ref a_2, .ref a_3, .ref a_4, .ref a_5, .int k_1, .int k_2, .int k_3, .int k_4, .int k_5, .long k_6, .int k_7, .int k_8, .int k_9, .int k_10, .ref a_6, .ref a_7, .ref a_8, .ref a_9, .ref a_10, .ref a_11, .ref a_12, .ref a_13, .ref a_14, .ref a_15, .ref a_16, .ref a_17, .ref a_18, .int k_11, .int k_12, .int k_13, .int k_14, .int k_15, .int k_16, .ref a_19, .int k_17, .ref a_20])), (a_6, .inl (cy 1, 5, .inl n1)), (a_7, .inl (cy 1, 30, .inl n3)), (a_8, .inl (cy 1, 90, .inl n5)), (a_9, .inl (cy 1, 15, .inl n7)), (a_10, .inl (cy 1, 1050, .inl (fun _ => 0))), (a_11, .inl (cy 1, 30, .inl (fun _ => 0))), (a_12, .inl (cy 1, 240, .inl (fun _ => 0))), (a_13, .inl (cy 1, 450, .inl (fun _ => 0)))]) hS
  have w8 := hw
  refine lv_aload_n hx hb dX12_copyBook_42 rfl (lv_at hl 0 rfl) ?_
  refine va_get (D := G) (ci := 12) (v := .ref a_10) (C := RX12) (T := TX12) (N := 38) hx hb hts (mm_i inlX12) hown hK.1 hP 0 rfl rfl 20 (by decide) (mm_h hts mm_w152) (fun _ h9 => h9) rfl dX12_copyBook_43 ?_
  refine lv_sipush (v := 210) hx hb dX12_copyBook_46 (by decide) ?_
  refine lv_iload_n hx hb dX12_copyBook_49 rfl (lv_at hl 1 rfl) ?_
  refine lv_iload_n hx hb dX12_copyBook_50 rfl (lv_at hl 2 rfl) ?_
  refine mm_finv (va_runS (As := [.ref a_10, .int 210, .int 4, .int 0]) (rest := []) ⟨hx, hb, hml, hown, hts⟩ (K83_X12_copyRow l G cy H.size a_10 ) (va_cwS 4 hts (mm_gS mm_w557 mm_w558 mm_w5 mm_w559) rfl rfl rfl hs_X12_copyRow ⟨by rw [hRf]; exact Nat.le_of_ble_eq_true rfl, by rw [hRl]; exact Nat.le_of_ble_eq_true rfl⟩) (mm_preS hK hP hD [5] rfl rfl) rfl rfl hl.1 rfl (lv_room (Nat.le_of_ble_eq_true rfl)) dX12_copyBook_51 ⟨by rw [hRc]; exact Nat.le_of_ble_eq_true rfl, by rw [hRs]; exact Nat.le_of_ble_eq_true rfl⟩) hP hD hS hA (fun u : (Nat → Int32) => [(a_0, .inr (12, [.int k_0, .ref a_1, .ref a_2, .ref a_3, .ref a_4, .ref a_5, .int k_1, .int k_2, .int k_3, .int k_4, .int k_5, .long k_6, .int k_7, .int k_8, .int k_9, .int k_10, .ref a_6, .ref a_7, .ref a_8, .ref a_9, .ref a_10, .ref a_11, .ref a_12, .ref a_13, .ref a_14, .ref a_15, .ref a_16, .ref a_17, .ref a_18, .int k_11, .int k_12, .int k_13, .int k_14, .int k_15, .int k_16, .ref a_19, .int k_17, .ref a_20])), (a_6, .inl (cy 1, 5, .inl n1)), (a_7, .inl (cy 1, 30, .inl n3)), (a_8, .inl (cy 1, 90, .inl n5)), (a_9, .inl (cy 1, 15, .inl n7)), (a_10, .inl (cy 1, 1050, .inl u)), (a_11, .inl (cy 1, 30, .inl (fun _ => 0))), (a_12, .inl (cy 1, 240, .inl (fun _ => 0))), (a_13, .inl (cy 1, 450, .inl (fun _ => 0)))]) [5] [0, 1, 2, 3, 4, 6, 7, 8] (n := 9) (fun _ => rfl) (by decide +kernel) (by decide +kernel) rfl (fun _ => rfl) (wr := [(a_0, .inr (12, [.int k_0, .ref a_1, .ref a_2, .ref a_3, .ref a_4, .ref a_5, .int k_1, .int k_2, .int k_3, .int k_4, .int k_5, .long k_6, .int k_7, .int k_8, .int k_9, .int k_10, .ref a_6, .ref a_7, .ref a_8, .ref a_9, .ref a_10, .ref a_11, .ref a_12, .ref a_13, .ref a_14, .ref a_15, .ref a_16, .ref a_17, .ref a_18, .int k_11, .int k_12, .int k_13, .int k_14, .int k_15, .int k_16, .ref a_19, .int k_17, .ref a_20])), (a_6, .inl (cy 1, 5, .inl n1)), (a_7, .inl (cy 1, 30, .inl n3)), (a_8, .inl (cy 1, 90, .inl n5)), (a_9, .inl (cy 1, 15, .inl n7)), (a_11, .inl (cy 1, 30, .inl (fun _ => 0))), (a_12, .inl (cy 1, 240, .inl (fun _ => 0))), (a_13, .inl (cy 1, 450, .inl (fun _ => 0)))]) rfl (fun _ => rfl) (fun _ => rfl) ?_
  clear hP hD hS
  clear H locs
  intro n9 H locs hw (hP : va_P G vwCl [(a_0, .inr (12, [.int k_0, .ref a_1, .ref a_2, .ref a_3, .ref a_4, .ref a_5, .int k_1, .int k_2, .int k_3, .int k_4, .int k_5, .long k_6, .int k_7, .int k_8, .int k_9, .int k_10, .ref a_6, .ref a_7, .ref a_8, .ref a_9, .ref a_10, .ref a_11, .ref a_12, .ref a_13, .ref a_14, .ref a_15, .ref a_16, .ref a_17, .ref a_18, .int k_11, .int k_12, .int k_13, .int k_14, .int k_15, .int k_16, .ref a_19, .int k_17, .ref a_20])), (a_6, .inl (cy 1, 5, .inl n1)), (a_7, .inl (cy 1, 30, .inl n3)), (a_8, .inl (cy 1, 90, .inl n5)), (a_9, .inl (cy 1, 15, .inl n7)), (a_10, .inl (cy 1, 1050, .inl n9)), (a_11, .inl (cy 1, 30, .inl (fun _ => 0))), (a_12, .inl (cy 1, 240, .inl (fun _ => 0))), (a_13, .inl (cy 1, 450, .inl (fun _ => 0)))] H) (hD : va_D A [(a_0, .inr (12, [.int k_0, .ref a_1, .ref a_2, .ref a_3, .ref a_4, .ref a_5, .int k_1, .int k_2, .int k_3, .int k_4, .int k_5, .long k_6, .int k_7, .int k_8, .int k_9, .int k_10, .ref a_6, .ref a_7, .ref a_8, .ref a_9, .ref a_10, .ref a_11, .ref a_12, .ref a_13, .ref a_14, .ref a_15, .ref a_16, .ref a_17, .ref a_18, .int k_11, .int k_12, .int k_13, .int k_14, .int k_15, .int k_16, .ref a_19, .int k_17, .ref a_20])), (a_6, .inl (cy 1, 5, .inl n1)), (a_7, .inl (cy 1, 30, .inl n3)), (a_8, .inl (cy 1, 90, .inl n5)), (a_9, .inl (cy 1, 15, .inl n7)), (a_10, .inl (cy 1, 1050, .inl n9)), (a_11, .inl (cy 1, 30, .inl (fun _ => 0))), (a_12, .inl (cy 1, 240, .inl (fun _ => 0))), (a_13, .inl (cy 1, 450, .inl (fun _ => 0)))]) hS
  have w10 := hw
  refine lv_aload_n hx hb dX12_copyBook_54 rfl (lv_at hl 0 rfl) ?_
  refine va_get (D := G) (ci := 12) (v := .ref a_11) (C := RX12) (T := TX12) (N := 38) hx hb hts (mm_i inlX12) hown hK.1 hP 0 rfl rfl 21 (by decide) (mm_h hts mm_w153) (fun _ h9 => h9) rfl dX12_copyBook_55 ?_
  refine lv_bipush (v := 6) hx hb dX12_copyBook_58 (by decide) ?_
  refine lv_iload_n hx hb dX12_copyBook_60 rfl (lv_at hl 1 rfl) ?_
  refine lv_iload_n hx hb dX12_copyBook_61 rfl (lv_at hl 2 rfl) ?_
  refine mm_finv (va_runS (As := [.ref a_11, .int 6, .int 4, .int 0]) (rest := []) ⟨hx, hb, hml, hown, hts⟩ (K84_X12_copyRow l G cy H.size a_11 ) (va_cwS 4 hts (mm_gS mm_w557 mm_w558 mm_w5 mm_w559) rfl rfl rfl hs_X12_copyRow ⟨by rw [hRf]; exact Nat.le_of_ble_eq_true rfl, by rw [hRl]; exact Nat.le_of_ble_eq_true rfl⟩) (mm_preS hK hP hD [6] rfl rfl) rfl rfl hl.1 rfl (lv_room (Nat.le_of_ble_eq_true rfl)) dX12_copyBook_62 ⟨by rw [hRc]; exact Nat.le_of_ble_eq_true rfl, by rw [hRs]; exact Nat.le_of_ble_eq_true rfl⟩) hP hD hS hA (fun u : (Nat → Int32) => [(a_0, .inr (12, [.int k_0, .ref a_1, .ref a_2, .ref a_3, .ref a_4, .ref a_5, .int k_1, .int k_2, .int k_3, .int k_4, .int k_5, .long k_6, .int k_7, .int k_8, .int k_9, .int k_10, .ref a_6, .ref a_7, .ref a_8, .ref a_9, .ref a_10, .ref a_11, .ref a_12, .ref a_13, .ref a_14, .ref a_15, .ref a_16, .ref a_17, .ref a_18, .int k_11, .int k_12, .int k_13, .int k_14, .int k_15, .int k_16, .ref a_19, .int k_17, .ref a_20])), (a_6, .inl (cy 1, 5, .inl n1)), (a_7, .inl (cy 1, 30, .inl n3)), (a_8, .inl (cy 1, 90, .inl n5)), (a_9, .inl (cy 1, 15, .inl n7)), (a_10, .inl (cy 1, 1050, .inl n9)), (a_11, .inl (cy 1, 30, .inl u)), (a_12, .inl (cy 1, 240, .inl (fun _ => 0))), (a_13, .inl (cy 1, 450, .inl (fun _ => 0)))]) [6] [0, 1, 2, 3, 4, 5, 7, 8] (n := 9) (fun _ => rfl) (by decide +kernel) (by decide +kernel) rfl (fun _ => rfl) (wr := [(a_0, .inr (12, [.int k_0, .ref a_1, .ref a_2, .ref a_3, .ref a_4, .ref a_5, .int k_1, .int k_2, .int k_3, .int k_4, .int k_5, .long k_6, .int k_7, .int k_8, .int k_9, .int k_10, .ref a_6, .ref a_7, .ref a_8, .ref a_9, .ref a_10, .ref a_11, .ref a_12, .ref a_13, .ref a_14, .ref a_15, .ref a_16, .ref a_17, .ref a_18, .int k_11, .int k_12, .int k_13, .int k_14, .int k_15, .int k_16, .ref a_19, .int k_17, .ref a_20])), (a_6, .inl (cy 1, 5, .inl n1)), (a_7, .inl (cy 1, 30, .inl n3)), (a_8, .inl (cy 1, 90, .inl n5)), (a_9, .inl (cy 1, 15, .inl n7)), (a_10, .inl (cy 1, 1050, .inl n9)), (a_12, .inl (cy 1, 240, .inl (fun _ => 0))), (a_13, .inl (cy 1, 450, .inl (fun _ => 0)))]) rfl (fun _ => rfl) (fun _ => rfl) ?_
  clear hP hD hS
  clear H locs
  intro n11 H locs hw (hP : va_P G vwCl [(a_0, .inr (12, [.int k_0, .ref a_1, .ref a_2, .ref a_3, .ref a_4, .ref a_5, .int k_1, .int k_2, .int k_3, .int k_4, .int k_5, .long k_6, .int k_7, .int k_8, .int k_9, .int k_10, .ref a_6, .ref a_7, .ref a_8, .ref a_9, .ref a_10, .ref a_11, .ref a_12, .ref a_13, .ref a_14, .ref a_15, .ref a_16, .ref a_17, .ref a_18, .int k_11, .int k_12, .int k_13, .int k_14, .int k_15, .int k_16, .ref a_19, .int k_17, .ref a_20])), (a_6, .inl (cy 1, 5, .inl n1)), (a_7, .inl (cy 1, 30, .inl n3)), (a_8, .inl (cy 1, 90, .inl n5)), (a_9, .inl (cy 1, 15, .inl n7)), (a_10, .inl (cy 1, 1050, .inl n9)), (a_11, .inl (cy 1, 30, .inl n11)), (a_12, .inl (cy 1, 240, .inl (fun _ => 0))), (a_13, .inl (cy 1, 450, .inl (fun _ => 0)))] H) (hD : va_D A [(a_0, .inr (12, [.int k_0, .ref a_1, .ref a_2, .ref a_3, .ref a_4, .ref a_5, .int k_1, .int k_2, .int k_3, .int k_4, .int k_5, .long k_6, .int k_7, .int k_8, .int k_9, .int k_10, .ref a_6, .ref a_7, .ref a_8, .ref a_9, .ref a_10, .ref a_11, .ref a_12, .ref a_13, .ref a_14, .ref a_15, .ref a_16, .ref a_17, .ref a_18, .int k_11, .int k_12, .int k_13, .int k_14, .int k_15, .int k_16, .ref a_19, .int k_17, .ref a_20])), (a_6, .inl (cy 1, 5, .inl n1)), (a_7, .inl (cy 1, 30, .inl n3)), (a_8, .inl (cy 1, 90, .inl n5)), (a_9, .inl (cy 1, 15, .inl n7)), (a_10, .inl (cy 1, 1050, .inl n9)), (a_11, .inl (cy 1, 30, .inl n11)), (a_12, .inl (cy 1, 240, .inl (fun _ => 0))), (a_13, .inl (cy 1, 450, .inl (fun _ => 0)))]) hS
  have w12 := hw
  refine lv_aload_n hx hb dX12_copyBook_65 rfl (lv_at hl 0 rfl) ?_
  refine va_get (D := G) (ci := 12) (v := .ref a_12) (C := RX12) (T := TX12) (N := 38) hx hb hts (mm_i inlX12) hown hK.1 hP 0 rfl rfl 22 (by decide) (mm_h hts mm_w154) (fun _ h9 => h9) rfl dX12_copyBook_66 ?_
  refine lv_bipush (v := 48) hx hb dX12_copyBook_69 (by decide) ?_
  refine lv_iload_n hx hb dX12_copyBook_71 rfl (lv_at hl 1 rfl) ?_
  refine lv_iload_n hx hb dX12_copyBook_72 rfl (lv_at hl 2 rfl) ?_
  refine mm_finv (va_runS (As := [.ref a_12, .int 48, .int 4, .int 0]) (rest := []) ⟨hx, hb, hml, hown, hts⟩ (K85_X12_copyRow l G cy H.size a_12 ) (va_cwS 4 hts (mm_gS mm_w557 mm_w558 mm_w5 mm_w559) rfl rfl rfl hs_X12_copyRow ⟨by rw [hRf]; exact Nat.le_of_ble_eq_true rfl, by rw [hRl]; exact Nat.le_of_ble_eq_true rfl⟩) (mm_preS hK hP hD [7] rfl rfl) rfl rfl hl.1 rfl (lv_room (Nat.le_of_ble_eq_true rfl)) dX12_copyBook_73 ⟨by rw [hRc]; exact Nat.le_of_ble_eq_true rfl, by rw [hRs]; exact Nat.le_of_ble_eq_true rfl⟩) hP hD hS hA (fun u : (Nat → Int32) => [(a_0, .inr (12, [.int k_0, .ref a_1, .ref a_2, .ref a_3, .ref a_4, .ref a_5, .int k_1, .int k_2, .int k_3, .int k_4, .int k_5, .long k_6, .int k_7, .int k_8, .int k_9, .int k_10, .ref a_6, .ref a_7, .ref a_8, .ref a_9, .ref a_10, .ref a_11, .ref a_12, .ref a_13, .ref a_14, .ref a_15, .ref a_16, .ref a_17, .ref a_18, .int k_11, .int k_12, .int k_13, .int k_14, .int k_15, .int k_16, .ref a_19, .int k_17, .ref a_20])), (a_6, .inl (cy 1, 5, .inl n1)), (a_7, .inl (cy 1, 30, .inl n3)), (a_8, .inl (cy 1, 90, .inl n5)), (a_9, .inl (cy 1, 15, .inl n7)), (a_10, .inl (cy 1, 1050, .inl n9)), (a_11, .inl (cy 1, 30, .inl n11)), (a_12, .inl (cy 1, 240, .inl u)), (a_13, .inl (cy 1, 450, .inl (fun _ => 0)))]) [7] [0, 1, 2, 3, 4, 5, 6, 8] (n := 9) (fun _ => rfl) (by decide +kernel) (by decide +kernel) rfl (fun _ => rfl) (wr := [(a_0, .inr (12, [.int k_0, .ref a_1, .ref a_2, .ref a_3, .ref a_4, .ref a_5, .int k_1, .int k_2, .int k_3, .int k_4, .int k_5, .long k_6, .int k_7, .int k_8, .int k_9, .int k_10, .ref a_6, .ref a_7, .ref a_8, .ref a_9, .ref a_10, .ref a_11, .ref a_12, .ref a_13, .ref a_14, .ref a_15, .ref a_16, .ref a_17, .ref a_18, .int k_11, .int k_12, .int k_13, .int k_14, .int k_15, .int k_16, .ref a_19, .int k_17, .ref a_20])), (a_6, .inl (cy 1, 5, .inl n1)), (a_7, .inl (cy 1, 30, .inl n3)), (a_8, .inl (cy 1, 90, .inl n5)), (a_9, .inl (cy 1, 15, .inl n7)), (a_10, .inl (cy 1, 1050, .inl n9)), (a_11, .inl (cy 1, 30, .inl n11)), (a_13, .inl (cy 1, 450, .inl (fun _ => 0)))]) rfl (fun _ => rfl) (fun _ => rfl) ?_
  clear hP hD hS
  clear H locs
  intro n13 H locs hw (hP : va_P G vwCl [(a_0, .inr (12, [.int k_0, .ref a_1, .ref a_2, .ref a_3, .ref a_4, .ref a_5, .int k_1, .int k_2, .int k_3, .int k_4, .int k_5, .long k_6, .int k_7, .int k_8, .int k_9, .int k_10, .ref a_6, .ref a_7, .ref a_8, .ref a_9, .ref a_10, .ref a_11, .ref a_12, .ref a_13, .ref a_14, .ref a_15, .ref a_16, .ref a_17, .ref a_18, .int k_11, .int k_12, .int k_13, .int k_14, .int k_15, .int k_16, .ref a_19, .int k_17, .ref a_20])), (a_6, .inl (cy 1, 5, .inl n1)), (a_7, .inl (cy 1, 30, .inl n3)), (a_8, .inl (cy 1, 90, .inl n5)), (a_9, .inl (cy 1, 15, .inl n7)), (a_10, .inl (cy 1, 1050, .inl n9)), (a_11, .inl (cy 1, 30, .inl n11)), (a_12, .inl (cy 1, 240, .inl n13)), (a_13, .inl (cy 1, 450, .inl (fun _ => 0)))] H) (hD : va_D A [(a_0, .inr (12, [.int k_0, .ref a_1, .ref a_2, .ref a_3, .ref a_4, .ref a_5, .int k_1, .int k_2, .int k_3, .int k_4, .int k_5, .long k_6, .int k_7, .int k_8, .int k_9, .int k_10, .ref a_6, .ref a_7, .ref a_8, .ref a_9, .ref a_10, .ref a_11, .ref a_12, .ref a_13, .ref a_14, .ref a_15, .ref a_16, .ref a_17, .ref a_18, .int k_11, .int k_12, .int k_13, .int k_14, .int k_15, .int k_16, .ref a_19, .int k_17, .ref a_20])), (a_6, .inl (cy 1, 5, .inl n1)), (a_7, .inl (cy 1, 30, .inl n3)), (a_8, .inl (cy 1, 90, .inl n5)), (a_9, .inl (cy 1, 15, .inl n7)), (a_10, .inl (cy 1, 1050, .inl n9)), (a_11, .inl (cy 1, 30, .inl n11)), (a_12, .inl (cy 1, 240, .inl n13)), (a_13, .inl (cy 1, 450, .inl (fun _ => 0)))]) hS
  have w14 := hw
  refine lv_aload_n hx hb dX12_copyBook_76 rfl (lv_at hl 0 rfl) ?_
  refine va_get (D := G) (ci := 12) (v := .ref a_13) (C := RX12) (T := TX12) (N := 38) hx hb hts (mm_i inlX12) hown hK.1 hP 0 rfl rfl 23 (by decide) (mm_h hts mm_w155) (fun _ h9 => h9) rfl dX12_copyBook_77 ?_
  refine lv_bipush (v := 90) hx hb dX12_copyBook_80 (by decide) ?_
  refine lv_iload_n hx hb dX12_copyBook_82 rfl (lv_at hl 1 rfl) ?_
  refine lv_iload_n hx hb dX12_copyBook_83 rfl (lv_at hl 2 rfl) ?_
  refine mm_finv (va_runS (As := [.ref a_13, .int 90, .int 4, .int 0]) (rest := []) ⟨hx, hb, hml, hown, hts⟩ (K86_X12_copyRow l G cy H.size a_13 ) (va_cwS 4 hts (mm_gS mm_w557 mm_w558 mm_w5 mm_w559) rfl rfl rfl hs_X12_copyRow ⟨by rw [hRf]; exact Nat.le_of_ble_eq_true rfl, by rw [hRl]; exact Nat.le_of_ble_eq_true rfl⟩) (mm_preS hK hP hD [8] rfl rfl) rfl rfl hl.1 rfl (lv_room (Nat.le_of_ble_eq_true rfl)) dX12_copyBook_84 ⟨by rw [hRc]; exact Nat.le_of_ble_eq_true rfl, by rw [hRs]; exact Nat.le_of_ble_eq_true rfl⟩) hP hD hS hA (fun u : (Nat → Int32) => [(a_0, .inr (12, [.int k_0, .ref a_1, .ref a_2, .ref a_3, .ref a_4, .ref a_5, .int k_1, .int k_2, .int k_3, .int k_4, .int k_5, .long k_6, .int k_7, .int k_8, .int k_9, .int k_10, .ref a_6, .ref a_7, .ref a_8, .ref a_9, .ref a_10, .ref a_11, .ref a_12, .ref a_13, .ref a_14, .ref a_15, .ref a_16, .ref a_17, .ref a_18, .int k_11, .int k_12, .int k_13, .int k_14, .int k_15, .int k_16, .ref a_19, .int k_17, .ref a_20])), (a_6, .inl (cy 1, 5, .inl n1)), (a_7, .inl (cy 1, 30, .inl n3)), (a_8, .inl (cy 1, 90, .inl n5)), (a_9, .inl (cy 1, 15, .inl n7)), (a_10, .inl (cy 1, 1050, .inl n9)), (a_11, .inl (cy 1, 30, .inl n11)), (a_12, .inl (cy 1, 240, .inl n13)), (a_13, .inl (cy 1, 450, .inl u))]) [8] [0, 1, 2, 3, 4, 5, 6, 7] (n := 9) (fun _ => rfl) (by decide +kernel) (by decide +kernel) rfl (fun _ => rfl) (wr := [(a_0, .inr (12, [.int k_0, .ref a_1, .ref a_2, .ref a_3, .ref a_4, .ref a_5, .int k_1, .int k_2, .int k_3, .int k_4, .int k_5, .long k_6, .int k_7, .int k_8, .int k_9, .int k_10, .ref a_6, .ref a_7, .ref a_8, .ref a_9, .ref a_10, .ref a_11, .ref a_12, .ref a_13, .ref a_14, .ref a_15, .ref a_16, .ref a_17, .ref a_18, .int k_11, .int k_12, .int k_13, .int k_14, .int k_15, .int k_16, .ref a_19, .int k_17, .ref a_20])), (a_6, .inl (cy 1, 5, .inl n1)), (a_7, .inl (cy 1, 30, .inl n3)), (a_8, .inl (cy 1, 90, .inl n5)), (a_9, .inl (cy 1, 15, .inl n7)), (a_10, .inl (cy 1, 1050, .inl n9)), (a_11, .inl (cy 1, 30, .inl n11)), (a_12, .inl (cy 1, 240, .inl n13))]) rfl (fun _ => rfl) (fun _ => rfl) ?_
  clear hP hD hS
  clear H locs
  intro n15 H locs hw (hP : va_P G vwCl [(a_0, .inr (12, [.int k_0, .ref a_1, .ref a_2, .ref a_3, .ref a_4, .ref a_5, .int k_1, .int k_2, .int k_3, .int k_4, .int k_5, .long k_6, .int k_7, .int k_8, .int k_9, .int k_10, .ref a_6, .ref a_7, .ref a_8, .ref a_9, .ref a_10, .ref a_11, .ref a_12, .ref a_13, .ref a_14, .ref a_15, .ref a_16, .ref a_17, .ref a_18, .int k_11, .int k_12, .int k_13, .int k_14, .int k_15, .int k_16, .ref a_19, .int k_17, .ref a_20])), (a_6, .inl (cy 1, 5, .inl n1)), (a_7, .inl (cy 1, 30, .inl n3)), (a_8, .inl (cy 1, 90, .inl n5)), (a_9, .inl (cy 1, 15, .inl n7)), (a_10, .inl (cy 1, 1050, .inl n9)), (a_11, .inl (cy 1, 30, .inl n11)), (a_12, .inl (cy 1, 240, .inl n13)), (a_13, .inl (cy 1, 450, .inl n15))] H) (hD : va_D A [(a_0, .inr (12, [.int k_0, .ref a_1, .ref a_2, .ref a_3, .ref a_4, .ref a_5, .int k_1, .int k_2, .int k_3, .int k_4, .int k_5, .long k_6, .int k_7, .int k_8, .int k_9, .int k_10, .ref a_6, .ref a_7, .ref a_8, .ref a_9, .ref a_10, .ref a_11, .ref a_12, .ref a_13, .ref a_14, .ref a_15, .ref a_16, .ref a_17, .ref a_18, .int k_11, .int k_12, .int k_13, .int k_14, .int k_15, .int k_16, .ref a_19, .int k_17, .ref a_20])), (a_6, .inl (cy 1, 5, .inl n1)), (a_7, .inl (cy 1, 30, .inl n3)), (a_8, .inl (cy 1, 90, .inl n5)), (a_9, .inl (cy 1, 15, .inl n7)), (a_10, .inl (cy 1, 1050, .inl n9)), (a_11, .inl (cy 1, 30, .inl n11)), (a_12, .inl (cy 1, 240, .inl n13)), (a_13, .inl (cy 1, 450, .inl n15))]) hS
  have w16 := hw
  subst hAe
  rw [hQ]
  exact W.vret hx hb hr (fun t ht hW => ⟨⟨(n1, n3, n5, n7, n9, n11, n13, n15), rfl, ⟨w2, w4, w6, w8, w10, w12, w14, w16⟩, by rw [ht]; exact hP, hK.warm hW, hD⟩, hS.F ht⟩) hS.2.2 dX12_copyBook_87

set_option maxHeartbeats 4000000 in
set_option maxRecDepth 100000 in
theorem K89_X12_tells (l : Launch) (G : va_G) (cy : Nat → ClassId) (sz : Nat) (a_0 : Nat) (k_0 : Int32) (a_1 : Nat) (a_2 : Nat) (a_3 : Nat) (a_4 : Nat) (a_5 : Nat) (k_1 : Int32) (k_2 : Int32) (k_3 : Int32) (k_4 : Int32) (k_5 : Int32) (k_6 : Int64) (k_7 : Int32) (k_8 : Int32) (k_9 : Int32) (k_10 : Int32) (a_6 : Nat) (a_7 : Nat) (a_8 : Nat) (a_9 : Nat) (a_10 : Nat) (a_11 : Nat) (a_12 : Nat) (a_13 : Nat) (a_14 : Nat) (a_15 : Nat) (a_16 : Nat) (a_17 : Nat) (a_18 : Nat) (i_0 : Int32) (i_1 : Int32) (i_2 : Int32) (i_3 : Int32) (i_4 : Int32) (i_5 : Int32) (a_19 : Nat) (i_6 : Int32) (a_20 : Nat)   : mm_CV l yX12_tells (mm_ws yX12_tells cX12_tells 3 (none)) ({ frames := 0, cells := 0, slots := 0, locals := 0 } : Room) G cy sz [(a_0, .inr (12, [.int k_0, .ref a_1, .ref a_2, .ref a_3, .ref a_4, .ref a_5, .int k_1, .int k_2, .int k_3, .int k_4, .int k_5, .long k_6, .int k_7, .int k_8, .int k_9, .int k_10, .ref a_6, .ref a_7, .ref a_8, .ref a_9, .ref a_10, .ref a_11, .ref a_12, .ref a_13, .ref a_14, .ref a_15, .ref a_16, .ref a_17, .ref a_18, .int i_0, .int i_1, .int i_2, .int i_3, .int i_4, .int i_5, .ref a_19, .int i_6, .ref a_20])), (a_7, .inl (cy 1, 30, .inl (fun _ => 0)))] [.ref a_0, .int 0, .int 0] (fun u : (Nat → Int32) => [(a_0, .inr (12, [.int k_0, .ref a_1, .ref a_2, .ref a_3, .ref a_4, .ref a_5, .int k_1, .int k_2, .int k_3, .int k_4, .int k_5, .long k_6, .int k_7, .int k_8, .int k_9, .int k_10, .ref a_6, .ref a_7, .ref a_8, .ref a_9, .ref a_10, .ref a_11, .ref a_12, .ref a_13, .ref a_14, .ref a_15, .ref a_16, .ref a_17, .ref a_18, .int i_0, .int i_1, .int i_2, .int i_3, .int i_4, .int i_5, .ref a_19, .int i_6, .ref a_20])), (a_7, .inl (cy 1, 30, .inl u))]) (fun u : (Nat → Int32) => mm_ar u 0 0) 0 0 := by
  refine mm_begin (lv := [(0, .ref a_0), (1, .int 0), (2, .int 0)]) (by decide) (Nat.le_of_ble_eq_true rfl) rfl ?_
  intro p e s m below meth c A ls R args Q H locs hRe hQ hAe hx hb hr hlocks hml hown hnm hts hsz hA hS hP hK hD hl
  have hRf : R.frames = 0 := by rw [hRe]
  have hRl : R.locals = 0 := by rw [hRe]
  have hRc : R.cells = 0 := by rw [hRe]
  have hRs : R.slots = 0 := by rw [hRe]
  refine lv_aload_n hx hb dX12_tells_0 rfl (lv_at hl 0 rfl) ?_
  refine va_get (D := G) (ci := 12) (v := .ref a_7) (C := RX12) (T := TX12) (N := 38) hx hb hts (mm_i inlX12) hown hK.1 hP 0 rfl rfl 17 (by decide) (mm_h hts mm_w149) (fun _ h9 => h9) rfl dX12_tells_1 ?_
  refine lv_bipush (v := 24) hx hb dX12_tells_4 (by decide) ?_
  refine lv_iload_n hx hb dX12_tells_6 rfl (lv_at hl 1 rfl) ?_
  refine lv_iadd hx hb dX12_tells_7 ?_
  refine lv_topi (fun v1 ev1 => ?_)
  obtain rfl : v1 = 24 := ev1.trans (by decide)
  refine lv_iload_n hx hb dX12_tells_8 rfl (lv_at hl 2 rfl) ?_
  refine va_iast hx hb hK.1 hP hD hS 1 1 rfl rfl (mm_in mm_k24 (by decide)) dX12_tells_9 ?_
  clear hP hD hS
  clear H locs
  obtain ⟨g2, eg2⟩ : ∃ z : Nat → Int32, z = upd (fun _ => 0) (24 : Int32).toNatClampNeg 0 := ⟨_, rfl⟩
  rw [← eg2]
  intro H locs (hP : va_P G vwCl [(a_0, .inr (12, [.int k_0, .ref a_1, .ref a_2, .ref a_3, .ref a_4, .ref a_5, .int k_1, .int k_2, .int k_3, .int k_4, .int k_5, .long k_6, .int k_7, .int k_8, .int k_9, .int k_10, .ref a_6, .ref a_7, .ref a_8, .ref a_9, .ref a_10, .ref a_11, .ref a_12, .ref a_13, .ref a_14, .ref a_15, .ref a_16, .ref a_17, .ref a_18, .int i_0, .int i_1, .int i_2, .int i_3, .int i_4, .int i_5, .ref a_19, .int i_6, .ref a_20])), (a_7, .inl (cy 1, 30, .inl g2))] H) (hD : va_D A [(a_0, .inr (12, [.int k_0, .ref a_1, .ref a_2, .ref a_3, .ref a_4, .ref a_5, .int k_1, .int k_2, .int k_3, .int k_4, .int k_5, .long k_6, .int k_7, .int k_8, .int k_9, .int k_10, .ref a_6, .ref a_7, .ref a_8, .ref a_9, .ref a_10, .ref a_11, .ref a_12, .ref a_13, .ref a_14, .ref a_15, .ref a_16, .ref a_17, .ref a_18, .int i_0, .int i_1, .int i_2, .int i_3, .int i_4, .int i_5, .ref a_19, .int i_6, .ref a_20])), (a_7, .inl (cy 1, 30, .inl g2))]) hS
  have rg2 : mm_ar g2 0 0 := by rw [eg2]; exact mm_ar_upd (mm_ar_wk (mm_ar_c mm_k0) (by decide)) (mm_wk mm_k0 (by decide)) _
  subst hAe
  rw [hQ]
  exact W.vret hx hb hr (fun t ht hW => ⟨⟨g2, rfl, rg2, by rw [ht]; exact hP, hK.warm hW, hD⟩, hS.F ht⟩) hS.2.2 dX12_tells_10

set_option maxHeartbeats 4000000 in
set_option maxRecDepth 100000 in
theorem K90_X12_tells (l : Launch) (G : va_G) (cy : Nat → ClassId) (sz : Nat) (a_0 : Nat) (k_0 : Int32) (a_1 : Nat) (a_2 : Nat) (a_3 : Nat) (a_4 : Nat) (a_5 : Nat) (k_1 : Int32) (k_2 : Int32) (k_3 : Int32) (k_4 : Int32) (k_5 : Int32) (k_6 : Int64) (k_7 : Int32) (k_8 : Int32) (k_9 : Int32) (k_10 : Int32) (a_6 : Nat) (a_7 : Nat) (a_8 : Nat) (a_9 : Nat) (a_10 : Nat) (a_11 : Nat) (a_12 : Nat) (a_13 : Nat) (a_14 : Nat) (a_15 : Nat) (a_16 : Nat) (a_17 : Nat) (a_18 : Nat) (i_0 : Int32) (i_1 : Int32) (i_2 : Int32) (i_3 : Int32) (i_4 : Int32) (i_5 : Int32) (a_19 : Nat) (i_6 : Int32) (a_20 : Nat) (f_1 : Nat → Int32) (h0 : mm_ar f_1 0 0)  : mm_CV l yX12_tells (mm_ws yX12_tells cX12_tells 3 (none)) ({ frames := 0, cells := 0, slots := 0, locals := 0 } : Room) G cy sz [(a_0, .inr (12, [.int k_0, .ref a_1, .ref a_2, .ref a_3, .ref a_4, .ref a_5, .int k_1, .int k_2, .int k_3, .int k_4, .int k_5, .long k_6, .int k_7, .int k_8, .int k_9, .int k_10, .ref a_6, .ref a_7, .ref a_8, .ref a_9, .ref a_10, .ref a_11, .ref a_12, .ref a_13, .ref a_14, .ref a_15, .ref a_16, .ref a_17, .ref a_18, .int i_0, .int i_1, .int i_2, .int i_3, .int i_4, .int i_5, .ref a_19, .int i_6, .ref a_20])), (a_7, .inl (cy 1, 30, .inl f_1))] [.ref a_0, .int 1, .int 0] (fun u : (Nat → Int32) => [(a_0, .inr (12, [.int k_0, .ref a_1, .ref a_2, .ref a_3, .ref a_4, .ref a_5, .int k_1, .int k_2, .int k_3, .int k_4, .int k_5, .long k_6, .int k_7, .int k_8, .int k_9, .int k_10, .ref a_6, .ref a_7, .ref a_8, .ref a_9, .ref a_10, .ref a_11, .ref a_12, .ref a_13, .ref a_14, .ref a_15, .ref a_16, .ref a_17, .ref a_18, .int i_0, .int i_1, .int i_2, .int i_3, .int i_4, .int i_5, .ref a_19, .int i_6, .ref a_20])), (a_7, .inl (cy 1, 30, .inl u))]) (fun u : (Nat → Int32) => mm_ar u 0 0) 0 0 := by
  refine mm_begin (lv := [(0, .ref a_0), (1, .int 1), (2, .int 0)]) (by decide) (Nat.le_of_ble_eq_true rfl) rfl ?_
  intro p e s m below meth c A ls R args Q H locs hRe hQ hAe hx hb hr hlocks hml hown hnm hts hsz hA hS hP hK hD hl
  have hRf : R.frames = 0 := by rw [hRe]
  have hRl : R.locals = 0 := by rw [hRe]
  have hRc : R.cells = 0 := by rw [hRe]
  have hRs : R.slots = 0 := by rw [hRe]
  refine lv_aload_n hx hb dX12_tells_0 rfl (lv_at hl 0 rfl) ?_
  refine va_get (D := G) (ci := 12) (v := .ref a_7) (C := RX12) (T := TX12) (N := 38) hx hb hts (mm_i inlX12) hown hK.1 hP 0 rfl rfl 17 (by decide) (mm_h hts mm_w149) (fun _ h9 => h9) rfl dX12_tells_1 ?_
  refine lv_bipush (v := 24) hx hb dX12_tells_4 (by decide) ?_
  refine lv_iload_n hx hb dX12_tells_6 rfl (lv_at hl 1 rfl) ?_
  refine lv_iadd hx hb dX12_tells_7 ?_
  refine lv_topi (fun v1 ev1 => ?_)
  obtain rfl : v1 = 25 := ev1.trans (by decide)
  refine lv_iload_n hx hb dX12_tells_8 rfl (lv_at hl 2 rfl) ?_
  refine va_iast hx hb hK.1 hP hD hS 1 1 rfl rfl (mm_in mm_k25 (by decide)) dX12_tells_9 ?_
  clear hP hD hS
  clear H locs
  obtain ⟨g2, eg2⟩ : ∃ z : Nat → Int32, z = upd f_1 (25 : Int32).toNatClampNeg 0 := ⟨_, rfl⟩
  rw [← eg2]
  intro H locs (hP : va_P G vwCl [(a_0, .inr (12, [.int k_0, .ref a_1, .ref a_2, .ref a_3, .ref a_4, .ref a_5, .int k_1, .int k_2, .int k_3, .int k_4, .int k_5, .long k_6, .int k_7, .int k_8, .int k_9, .int k_10, .ref a_6, .ref a_7, .ref a_8, .ref a_9, .ref a_10, .ref a_11, .ref a_12, .ref a_13, .ref a_14, .ref a_15, .ref a_16, .ref a_17, .ref a_18, .int i_0, .int i_1, .int i_2, .int i_3, .int i_4, .int i_5, .ref a_19, .int i_6, .ref a_20])), (a_7, .inl (cy 1, 30, .inl g2))] H) (hD : va_D A [(a_0, .inr (12, [.int k_0, .ref a_1, .ref a_2, .ref a_3, .ref a_4, .ref a_5, .int k_1, .int k_2, .int k_3, .int k_4, .int k_5, .long k_6, .int k_7, .int k_8, .int k_9, .int k_10, .ref a_6, .ref a_7, .ref a_8, .ref a_9, .ref a_10, .ref a_11, .ref a_12, .ref a_13, .ref a_14, .ref a_15, .ref a_16, .ref a_17, .ref a_18, .int i_0, .int i_1, .int i_2, .int i_3, .int i_4, .int i_5, .ref a_19, .int i_6, .ref a_20])), (a_7, .inl (cy 1, 30, .inl g2))]) hS
  have rg2 : mm_ar g2 0 0 := by rw [eg2]; exact mm_ar_upd (mm_ar_wk h0 (by decide)) (mm_wk mm_k0 (by decide)) _
  subst hAe
  rw [hQ]
  exact W.vret hx hb hr (fun t ht hW => ⟨⟨g2, rfl, rg2, by rw [ht]; exact hP, hK.warm hW, hD⟩, hS.F ht⟩) hS.2.2 dX12_tells_10

set_option maxHeartbeats 4000000 in
set_option maxRecDepth 100000 in
theorem K91_X12_tells (l : Launch) (G : va_G) (cy : Nat → ClassId) (sz : Nat) (a_0 : Nat) (k_0 : Int32) (a_1 : Nat) (a_2 : Nat) (a_3 : Nat) (a_4 : Nat) (a_5 : Nat) (k_1 : Int32) (k_2 : Int32) (k_3 : Int32) (k_4 : Int32) (k_5 : Int32) (k_6 : Int64) (k_7 : Int32) (k_8 : Int32) (k_9 : Int32) (k_10 : Int32) (a_6 : Nat) (a_7 : Nat) (a_8 : Nat) (a_9 : Nat) (a_10 : Nat) (a_11 : Nat) (a_12 : Nat) (a_13 : Nat) (a_14 : Nat) (a_15 : Nat) (a_16 : Nat) (a_17 : Nat) (a_18 : Nat) (i_0 : Int32) (i_1 : Int32) (i_2 : Int32) (i_3 : Int32) (i_4 : Int32) (i_5 : Int32) (a_19 : Nat) (i_6 : Int32) (a_20 : Nat) (f_1 : Nat → Int32) (h0 : mm_ar f_1 0 0)  : mm_CV l yX12_tells (mm_ws yX12_tells cX12_tells 3 (none)) ({ frames := 0, cells := 0, slots := 0, locals := 0 } : Room) G cy sz [(a_0, .inr (12, [.int k_0, .ref a_1, .ref a_2, .ref a_3, .ref a_4, .ref a_5, .int k_1, .int k_2, .int k_3, .int k_4, .int k_5, .long k_6, .int k_7, .int k_8, .int k_9, .int k_10, .ref a_6, .ref a_7, .ref a_8, .ref a_9, .ref a_10, .ref a_11, .ref a_12, .ref a_13, .ref a_14, .ref a_15, .ref a_16, .ref a_17, .ref a_18, .int i_0, .int i_1, .int i_2, .int i_3, .int i_4, .int i_5, .ref a_19, .int i_6, .ref a_20])), (a_7, .inl (cy 1, 30, .inl f_1))] [.ref a_0, .int 2, .int 0] (fun u : (Nat → Int32) => [(a_0, .inr (12, [.int k_0, .ref a_1, .ref a_2, .ref a_3, .ref a_4, .ref a_5, .int k_1, .int k_2, .int k_3, .int k_4, .int k_5, .long k_6, .int k_7, .int k_8, .int k_9, .int k_10, .ref a_6, .ref a_7, .ref a_8, .ref a_9, .ref a_10, .ref a_11, .ref a_12, .ref a_13, .ref a_14, .ref a_15, .ref a_16, .ref a_17, .ref a_18, .int i_0, .int i_1, .int i_2, .int i_3, .int i_4, .int i_5, .ref a_19, .int i_6, .ref a_20])), (a_7, .inl (cy 1, 30, .inl u))]) (fun u : (Nat → Int32) => mm_ar u 0 0) 0 0 := by
  refine mm_begin (lv := [(0, .ref a_0), (1, .int 2), (2, .int 0)]) (by decide) (Nat.le_of_ble_eq_true rfl) rfl ?_
  intro p e s m below meth c A ls R args Q H locs hRe hQ hAe hx hb hr hlocks hml hown hnm hts hsz hA hS hP hK hD hl
  have hRf : R.frames = 0 := by rw [hRe]
  have hRl : R.locals = 0 := by rw [hRe]
  have hRc : R.cells = 0 := by rw [hRe]
  have hRs : R.slots = 0 := by rw [hRe]
  refine lv_aload_n hx hb dX12_tells_0 rfl (lv_at hl 0 rfl) ?_
  refine va_get (D := G) (ci := 12) (v := .ref a_7) (C := RX12) (T := TX12) (N := 38) hx hb hts (mm_i inlX12) hown hK.1 hP 0 rfl rfl 17 (by decide) (mm_h hts mm_w149) (fun _ h9 => h9) rfl dX12_tells_1 ?_
  refine lv_bipush (v := 24) hx hb dX12_tells_4 (by decide) ?_
  refine lv_iload_n hx hb dX12_tells_6 rfl (lv_at hl 1 rfl) ?_
  refine lv_iadd hx hb dX12_tells_7 ?_
  refine lv_topi (fun v1 ev1 => ?_)
  obtain rfl : v1 = 26 := ev1.trans (by decide)
  refine lv_iload_n hx hb dX12_tells_8 rfl (lv_at hl 2 rfl) ?_
  refine va_iast hx hb hK.1 hP hD hS 1 1 rfl rfl (mm_in mm_k26 (by decide)) dX12_tells_9 ?_
  clear hP hD hS
  clear H locs
  obtain ⟨g2, eg2⟩ : ∃ z : Nat → Int32, z = upd f_1 (26 : Int32).toNatClampNeg 0 := ⟨_, rfl⟩
  rw [← eg2]
  intro H locs (hP : va_P G vwCl [(a_0, .inr (12, [.int k_0, .ref a_1, .ref a_2, .ref a_3, .ref a_4, .ref a_5, .int k_1, .int k_2, .int k_3, .int k_4, .int k_5, .long k_6, .int k_7, .int k_8, .int k_9, .int k_10, .ref a_6, .ref a_7, .ref a_8, .ref a_9, .ref a_10, .ref a_11, .ref a_12, .ref a_13, .ref a_14, .ref a_15, .ref a_16, .ref a_17, .ref a_18, .int i_0, .int i_1, .int i_2, .int i_3, .int i_4, .int i_5, .ref a_19, .int i_6, .ref a_20])), (a_7, .inl (cy 1, 30, .inl g2))] H) (hD : va_D A [(a_0, .inr (12, [.int k_0, .ref a_1, .ref a_2, .ref a_3, .ref a_4, .ref a_5, .int k_1, .int k_2, .int k_3, .int k_4, .int k_5, .long k_6, .int k_7, .int k_8, .int k_9, .int k_10, .ref a_6, .ref a_7, .ref a_8, .ref a_9, .ref a_10, .ref a_11, .ref a_12, .ref a_13, .ref a_14, .ref a_15, .ref a_16, .ref a_17, .ref a_18, .int i_0, .int i_1, .int i_2, .int i_3, .int i_4, .int i_5, .ref a_19, .int i_6, .ref a_20])), (a_7, .inl (cy 1, 30, .inl g2))]) hS
  have rg2 : mm_ar g2 0 0 := by rw [eg2]; exact mm_ar_upd (mm_ar_wk h0 (by decide)) (mm_wk mm_k0 (by decide)) _
  subst hAe
  rw [hQ]
  exact W.vret hx hb hr (fun t ht hW => ⟨⟨g2, rfl, rg2, by rw [ht]; exact hP, hK.warm hW, hD⟩, hS.F ht⟩) hS.2.2 dX12_tells_10

set_option maxHeartbeats 4000000 in
set_option maxRecDepth 100000 in
theorem K92_X12_tells (l : Launch) (G : va_G) (cy : Nat → ClassId) (sz : Nat) (a_0 : Nat) (k_0 : Int32) (a_1 : Nat) (a_2 : Nat) (a_3 : Nat) (a_4 : Nat) (a_5 : Nat) (k_1 : Int32) (k_2 : Int32) (k_3 : Int32) (k_4 : Int32) (k_5 : Int32) (k_6 : Int64) (k_7 : Int32) (k_8 : Int32) (k_9 : Int32) (k_10 : Int32) (a_6 : Nat) (a_7 : Nat) (a_8 : Nat) (a_9 : Nat) (a_10 : Nat) (a_11 : Nat) (a_12 : Nat) (a_13 : Nat) (a_14 : Nat) (a_15 : Nat) (a_16 : Nat) (a_17 : Nat) (a_18 : Nat) (i_0 : Int32) (i_1 : Int32) (i_2 : Int32) (i_3 : Int32) (i_4 : Int32) (i_5 : Int32) (a_19 : Nat) (i_6 : Int32) (a_20 : Nat) (f_1 : Nat → Int32) (h0 : mm_ar f_1 0 0)  : mm_CV l yX12_tells (mm_ws yX12_tells cX12_tells 3 (none)) ({ frames := 0, cells := 0, slots := 0, locals := 0 } : Room) G cy sz [(a_0, .inr (12, [.int k_0, .ref a_1, .ref a_2, .ref a_3, .ref a_4, .ref a_5, .int k_1, .int k_2, .int k_3, .int k_4, .int k_5, .long k_6, .int k_7, .int k_8, .int k_9, .int k_10, .ref a_6, .ref a_7, .ref a_8, .ref a_9, .ref a_10, .ref a_11, .ref a_12, .ref a_13, .ref a_14, .ref a_15, .ref a_16, .ref a_17, .ref a_18, .int i_0, .int i_1, .int i_2, .int i_3, .int i_4, .int i_5, .ref a_19, .int i_6, .ref a_20])), (a_7, .inl (cy 1, 30, .inl f_1))] [.ref a_0, .int 3, .int 0] (fun u : (Nat → Int32) => [(a_0, .inr (12, [.int k_0, .ref a_1, .ref a_2, .ref a_3, .ref a_4, .ref a_5, .int k_1, .int k_2, .int k_3, .int k_4, .int k_5, .long k_6, .int k_7, .int k_8, .int k_9, .int k_10, .ref a_6, .ref a_7, .ref a_8, .ref a_9, .ref a_10, .ref a_11, .ref a_12, .ref a_13, .ref a_14, .ref a_15, .ref a_16, .ref a_17, .ref a_18, .int i_0, .int i_1, .int i_2, .int i_3, .int i_4, .int i_5, .ref a_19, .int i_6, .ref a_20])), (a_7, .inl (cy 1, 30, .inl u))]) (fun u : (Nat → Int32) => mm_ar u 0 0) 0 0 := by
  refine mm_begin (lv := [(0, .ref a_0), (1, .int 3), (2, .int 0)]) (by decide) (Nat.le_of_ble_eq_true rfl) rfl ?_
  intro p e s m below meth c A ls R args Q H locs hRe hQ hAe hx hb hr hlocks hml hown hnm hts hsz hA hS hP hK hD hl
  have hRf : R.frames = 0 := by rw [hRe]
  have hRl : R.locals = 0 := by rw [hRe]
  have hRc : R.cells = 0 := by rw [hRe]
  have hRs : R.slots = 0 := by rw [hRe]
  refine lv_aload_n hx hb dX12_tells_0 rfl (lv_at hl 0 rfl) ?_
  refine va_get (D := G) (ci := 12) (v := .ref a_7) (C := RX12) (T := TX12) (N := 38) hx hb hts (mm_i inlX12) hown hK.1 hP 0 rfl rfl 17 (by decide) (mm_h hts mm_w149) (fun _ h9 => h9) rfl dX12_tells_1 ?_
  refine lv_bipush (v := 24) hx hb dX12_tells_4 (by decide) ?_
  refine lv_iload_n hx hb dX12_tells_6 rfl (lv_at hl 1 rfl) ?_
  refine lv_iadd hx hb dX12_tells_7 ?_
  refine lv_topi (fun v1 ev1 => ?_)
  obtain rfl : v1 = 27 := ev1.trans (by decide)
  refine lv_iload_n hx hb dX12_tells_8 rfl (lv_at hl 2 rfl) ?_
  refine va_iast hx hb hK.1 hP hD hS 1 1 rfl rfl (mm_in mm_k27 (by decide)) dX12_tells_9 ?_
  clear hP hD hS
  clear H locs
  obtain ⟨g2, eg2⟩ : ∃ z : Nat → Int32, z = upd f_1 (27 : Int32).toNatClampNeg 0 := ⟨_, rfl⟩
  rw [← eg2]
  intro H locs (hP : va_P G vwCl [(a_0, .inr (12, [.int k_0, .ref a_1, .ref a_2, .ref a_3, .ref a_4, .ref a_5, .int k_1, .int k_2, .int k_3, .int k_4, .int k_5, .long k_6, .int k_7, .int k_8, .int k_9, .int k_10, .ref a_6, .ref a_7, .ref a_8, .ref a_9, .ref a_10, .ref a_11, .ref a_12, .ref a_13, .ref a_14, .ref a_15, .ref a_16, .ref a_17, .ref a_18, .int i_0, .int i_1, .int i_2, .int i_3, .int i_4, .int i_5, .ref a_19, .int i_6, .ref a_20])), (a_7, .inl (cy 1, 30, .inl g2))] H) (hD : va_D A [(a_0, .inr (12, [.int k_0, .ref a_1, .ref a_2, .ref a_3, .ref a_4, .ref a_5, .int k_1, .int k_2, .int k_3, .int k_4, .int k_5, .long k_6, .int k_7, .int k_8, .int k_9, .int k_10, .ref a_6, .ref a_7, .ref a_8, .ref a_9, .ref a_10, .ref a_11, .ref a_12, .ref a_13, .ref a_14, .ref a_15, .ref a_16, .ref a_17, .ref a_18, .int i_0, .int i_1, .int i_2, .int i_3, .int i_4, .int i_5, .ref a_19, .int i_6, .ref a_20])), (a_7, .inl (cy 1, 30, .inl g2))]) hS
  have rg2 : mm_ar g2 0 0 := by rw [eg2]; exact mm_ar_upd (mm_ar_wk h0 (by decide)) (mm_wk mm_k0 (by decide)) _
  subst hAe
  rw [hQ]
  exact W.vret hx hb hr (fun t ht hW => ⟨⟨g2, rfl, rg2, by rw [ht]; exact hP, hK.warm hW, hD⟩, hS.F ht⟩) hS.2.2 dX12_tells_10

set_option maxHeartbeats 4000000 in
set_option maxRecDepth 100000 in
theorem K93_X12_tells (l : Launch) (G : va_G) (cy : Nat → ClassId) (sz : Nat) (a_0 : Nat) (k_0 : Int32) (a_1 : Nat) (a_2 : Nat) (a_3 : Nat) (a_4 : Nat) (a_5 : Nat) (k_1 : Int32) (k_2 : Int32) (k_3 : Int32) (k_4 : Int32) (k_5 : Int32) (k_6 : Int64) (k_7 : Int32) (k_8 : Int32) (k_9 : Int32) (k_10 : Int32) (a_6 : Nat) (a_7 : Nat) (a_8 : Nat) (a_9 : Nat) (a_10 : Nat) (a_11 : Nat) (a_12 : Nat) (a_13 : Nat) (a_14 : Nat) (a_15 : Nat) (a_16 : Nat) (a_17 : Nat) (a_18 : Nat) (i_0 : Int32) (i_1 : Int32) (i_2 : Int32) (i_3 : Int32) (i_4 : Int32) (i_5 : Int32) (a_19 : Nat) (i_6 : Int32) (a_20 : Nat) (f_1 : Nat → Int32) (h0 : mm_ar f_1 0 0)  : mm_CV l yX12_tells (mm_ws yX12_tells cX12_tells 3 (none)) ({ frames := 0, cells := 0, slots := 0, locals := 0 } : Room) G cy sz [(a_0, .inr (12, [.int k_0, .ref a_1, .ref a_2, .ref a_3, .ref a_4, .ref a_5, .int k_1, .int k_2, .int k_3, .int k_4, .int k_5, .long k_6, .int k_7, .int k_8, .int k_9, .int k_10, .ref a_6, .ref a_7, .ref a_8, .ref a_9, .ref a_10, .ref a_11, .ref a_12, .ref a_13, .ref a_14, .ref a_15, .ref a_16, .ref a_17, .ref a_18, .int i_0, .int i_1, .int i_2, .int i_3, .int i_4, .int i_5, .ref a_19, .int i_6, .ref a_20])), (a_7, .inl (cy 1, 30, .inl f_1))] [.ref a_0, .int 4, .int 0] (fun u : (Nat → Int32) => [(a_0, .inr (12, [.int k_0, .ref a_1, .ref a_2, .ref a_3, .ref a_4, .ref a_5, .int k_1, .int k_2, .int k_3, .int k_4, .int k_5, .long k_6, .int k_7, .int k_8, .int k_9, .int k_10, .ref a_6, .ref a_7, .ref a_8, .ref a_9, .ref a_10, .ref a_11, .ref a_12, .ref a_13, .ref a_14, .ref a_15, .ref a_16, .ref a_17, .ref a_18, .int i_0, .int i_1, .int i_2, .int i_3, .int i_4, .int i_5, .ref a_19, .int i_6, .ref a_20])), (a_7, .inl (cy 1, 30, .inl u))]) (fun u : (Nat → Int32) => mm_ar u 0 0) 0 0 := by
  refine mm_begin (lv := [(0, .ref a_0), (1, .int 4), (2, .int 0)]) (by decide) (Nat.le_of_ble_eq_true rfl) rfl ?_
  intro p e s m below meth c A ls R args Q H locs hRe hQ hAe hx hb hr hlocks hml hown hnm hts hsz hA hS hP hK hD hl
  have hRf : R.frames = 0 := by rw [hRe]
  have hRl : R.locals = 0 := by rw [hRe]
  have hRc : R.cells = 0 := by rw [hRe]
  have hRs : R.slots = 0 := by rw [hRe]
  refine lv_aload_n hx hb dX12_tells_0 rfl (lv_at hl 0 rfl) ?_
  refine va_get (D := G) (ci := 12) (v := .ref a_7) (C := RX12) (T := TX12) (N := 38) hx hb hts (mm_i inlX12) hown hK.1 hP 0 rfl rfl 17 (by decide) (mm_h hts mm_w149) (fun _ h9 => h9) rfl dX12_tells_1 ?_
  refine lv_bipush (v := 24) hx hb dX12_tells_4 (by decide) ?_
  refine lv_iload_n hx hb dX12_tells_6 rfl (lv_at hl 1 rfl) ?_
  refine lv_iadd hx hb dX12_tells_7 ?_
  refine lv_topi (fun v1 ev1 => ?_)
  obtain rfl : v1 = 28 := ev1.trans (by decide)
  refine lv_iload_n hx hb dX12_tells_8 rfl (lv_at hl 2 rfl) ?_
  refine va_iast hx hb hK.1 hP hD hS 1 1 rfl rfl (mm_in mm_k28 (by decide)) dX12_tells_9 ?_
  clear hP hD hS
  clear H locs
  obtain ⟨g2, eg2⟩ : ∃ z : Nat → Int32, z = upd f_1 (28 : Int32).toNatClampNeg 0 := ⟨_, rfl⟩
  rw [← eg2]
  intro H locs (hP : va_P G vwCl [(a_0, .inr (12, [.int k_0, .ref a_1, .ref a_2, .ref a_3, .ref a_4, .ref a_5, .int k_1, .int k_2, .int k_3, .int k_4, .int k_5, .long k_6, .int k_7, .int k_8, .int k_9, .int k_10, .ref a_6, .ref a_7, .ref a_8, .ref a_9, .ref a_10, .ref a_11, .ref a_12, .ref a_13, .ref a_14, .ref a_15, .ref a_16, .ref a_17, .ref a_18, .int i_0, .int i_1, .int i_2, .int i_3, .int i_4, .int i_5, .ref a_19, .int i_6, .ref a_20])), (a_7, .inl (cy 1, 30, .inl g2))] H) (hD : va_D A [(a_0, .inr (12, [.int k_0, .ref a_1, .ref a_2, .ref a_3, .ref a_4, .ref a_5, .int k_1, .int k_2, .int k_3, .int k_4, .int k_5, .long k_6, .int k_7, .int k_8, .int k_9, .int k_10, .ref a_6, .ref a_7, .ref a_8, .ref a_9, .ref a_10, .ref a_11, .ref a_12, .ref a_13, .ref a_14, .ref a_15, .ref a_16, .ref a_17, .ref a_18, .int i_0, .int i_1, .int i_2, .int i_3, .int i_4, .int i_5, .ref a_19, .int i_6, .ref a_20])), (a_7, .inl (cy 1, 30, .inl g2))]) hS
  have rg2 : mm_ar g2 0 0 := by rw [eg2]; exact mm_ar_upd (mm_ar_wk h0 (by decide)) (mm_wk mm_k0 (by decide)) _
  subst hAe
  rw [hQ]
  exact W.vret hx hb hr (fun t ht hW => ⟨⟨g2, rfl, rg2, by rw [ht]; exact hP, hK.warm hW, hD⟩, hS.F ht⟩) hS.2.2 dX12_tells_10

set_option maxHeartbeats 4000000 in
set_option maxRecDepth 100000 in
theorem K94_X12_tells (l : Launch) (G : va_G) (cy : Nat → ClassId) (sz : Nat) (a_0 : Nat) (k_0 : Int32) (a_1 : Nat) (a_2 : Nat) (a_3 : Nat) (a_4 : Nat) (a_5 : Nat) (k_1 : Int32) (k_2 : Int32) (k_3 : Int32) (k_4 : Int32) (k_5 : Int32) (k_6 : Int64) (k_7 : Int32) (k_8 : Int32) (k_9 : Int32) (k_10 : Int32) (a_6 : Nat) (a_7 : Nat) (a_8 : Nat) (a_9 : Nat) (a_10 : Nat) (a_11 : Nat) (a_12 : Nat) (a_13 : Nat) (a_14 : Nat) (a_15 : Nat) (a_16 : Nat) (a_17 : Nat) (a_18 : Nat) (i_0 : Int32) (i_1 : Int32) (i_2 : Int32) (i_3 : Int32) (i_4 : Int32) (i_5 : Int32) (a_19 : Nat) (i_6 : Int32) (a_20 : Nat) (f_1 : Nat → Int32) (h0 : mm_ar f_1 0 0)  : mm_CV l yX12_tells (mm_ws yX12_tells cX12_tells 3 (none)) ({ frames := 0, cells := 0, slots := 0, locals := 0 } : Room) G cy sz [(a_0, .inr (12, [.int k_0, .ref a_1, .ref a_2, .ref a_3, .ref a_4, .ref a_5, .int k_1, .int k_2, .int k_3, .int k_4, .int k_5, .long k_6, .int k_7, .int k_8, .int k_9, .int k_10, .ref a_6, .ref a_7, .ref a_8, .ref a_9, .ref a_10, .ref a_11, .ref a_12, .ref a_13, .ref a_14, .ref a_15, .ref a_16, .ref a_17, .ref a_18, .int i_0, .int i_1, .int i_2, .int i_3, .int i_4, .int i_5, .ref a_19, .int i_6, .ref a_20])), (a_7, .inl (cy 1, 30, .inl f_1))] [.ref a_0, .int 5, .int 0] (fun u : (Nat → Int32) => [(a_0, .inr (12, [.int k_0, .ref a_1, .ref a_2, .ref a_3, .ref a_4, .ref a_5, .int k_1, .int k_2, .int k_3, .int k_4, .int k_5, .long k_6, .int k_7, .int k_8, .int k_9, .int k_10, .ref a_6, .ref a_7, .ref a_8, .ref a_9, .ref a_10, .ref a_11, .ref a_12, .ref a_13, .ref a_14, .ref a_15, .ref a_16, .ref a_17, .ref a_18, .int i_0, .int i_1, .int i_2, .int i_3, .int i_4, .int i_5, .ref a_19, .int i_6, .ref a_20])), (a_7, .inl (cy 1, 30, .inl u))]) (fun u : (Nat → Int32) => mm_ar u 0 0) 0 0 := by
  refine mm_begin (lv := [(0, .ref a_0), (1, .int 5), (2, .int 0)]) (by decide) (Nat.le_of_ble_eq_true rfl) rfl ?_
  intro p e s m below meth c A ls R args Q H locs hRe hQ hAe hx hb hr hlocks hml hown hnm hts hsz hA hS hP hK hD hl
  have hRf : R.frames = 0 := by rw [hRe]
  have hRl : R.locals = 0 := by rw [hRe]
  have hRc : R.cells = 0 := by rw [hRe]
  have hRs : R.slots = 0 := by rw [hRe]
  refine lv_aload_n hx hb dX12_tells_0 rfl (lv_at hl 0 rfl) ?_
  refine va_get (D := G) (ci := 12) (v := .ref a_7) (C := RX12) (T := TX12) (N := 38) hx hb hts (mm_i inlX12) hown hK.1 hP 0 rfl rfl 17 (by decide) (mm_h hts mm_w149) (fun _ h9 => h9) rfl dX12_tells_1 ?_
  refine lv_bipush (v := 24) hx hb dX12_tells_4 (by decide) ?_
  refine lv_iload_n hx hb dX12_tells_6 rfl (lv_at hl 1 rfl) ?_
  refine lv_iadd hx hb dX12_tells_7 ?_
  refine lv_topi (fun v1 ev1 => ?_)
  obtain rfl : v1 = 29 := ev1.trans (by decide)
  refine lv_iload_n hx hb dX12_tells_8 rfl (lv_at hl 2 rfl) ?_
  refine va_iast hx hb hK.1 hP hD hS 1 1 rfl rfl (mm_in mm_k29 (by decide)) dX12_tells_9 ?_
  clear hP hD hS
  clear H locs
  obtain ⟨g2, eg2⟩ : ∃ z : Nat → Int32, z = upd f_1 (29 : Int32).toNatClampNeg 0 := ⟨_, rfl⟩
  rw [← eg2]
  intro H locs (hP : va_P G vwCl [(a_0, .inr (12, [.int k_0, .ref a_1, .ref a_2, .ref a_3, .ref a_4, .ref a_5, .int k_1, .int k_2, .int k_3, .int k_4, .int k_5, .long k_6, .int k_7, .int k_8, .int k_9, .int k_10, .ref a_6, .ref a_7, .ref a_8, .ref a_9, .ref a_10, .ref a_11, .ref a_12, .ref a_13, .ref a_14, .ref a_15, .ref a_16, .ref a_17, .ref a_18, .int i_0, .int i_1, .int i_2, .int i_3, .int i_4, .int i_5, .ref a_19, .int i_6, .ref a_20])), (a_7, .inl (cy 1, 30, .inl g2))] H) (hD : va_D A [(a_0, .inr (12, [.int k_0, .ref a_1, .ref a_2, .ref a_3, .ref a_4, .ref a_5, .int k_1, .int k_2, .int k_3, .int k_4, .int k_5, .long k_6, .int k_7, .int k_8, .int k_9, .int k_10, .ref a_6, .ref a_7, .ref a_8, .ref a_9, .ref a_10, .ref a_11, .ref a_12, .ref a_13, .ref a_14, .ref a_15, .ref a_16, .ref a_17, .ref a_18, .int i_0, .int i_1, .int i_2, .int i_3, .int i_4, .int i_5, .ref a_19, .int i_6, .ref a_20])), (a_7, .inl (cy 1, 30, .inl g2))]) hS
  have rg2 : mm_ar g2 0 0 := by rw [eg2]; exact mm_ar_upd (mm_ar_wk h0 (by decide)) (mm_wk mm_k0 (by decide)) _
  subst hAe
  rw [hQ]
  exact W.vret hx hb hr (fun t ht hW => ⟨⟨g2, rfl, rg2, by rw [ht]; exact hP, hK.warm hW, hD⟩, hS.F ht⟩) hS.2.2 dX12_tells_10

set_option maxHeartbeats 4000000 in
set_option maxRecDepth 100000 in
theorem K95_X12_clears (l : Launch) (G : va_G) (cy : Nat → ClassId) (sz : Nat) (a_0 : Nat) (k_0 : Int32) (a_1 : Nat) (a_2 : Nat) (a_3 : Nat) (a_4 : Nat) (a_5 : Nat) (k_1 : Int32) (k_2 : Int32) (k_3 : Int32) (k_4 : Int32) (k_5 : Int32) (k_6 : Int64) (k_7 : Int32) (k_8 : Int32) (k_9 : Int32) (k_10 : Int32) (a_6 : Nat) (a_7 : Nat) (a_8 : Nat) (a_9 : Nat) (a_10 : Nat) (a_11 : Nat) (a_12 : Nat) (a_13 : Nat) (a_14 : Nat) (a_15 : Nat) (a_16 : Nat) (a_17 : Nat) (a_18 : Nat) (i_0 : Int32) (i_1 : Int32) (i_2 : Int32) (i_3 : Int32) (i_4 : Int32) (i_5 : Int32) (a_19 : Nat) (i_6 : Int32) (a_20 : Nat)   : mm_CV l yX12_clears (mm_ws yX12_clears cX12_clears 2 (none)) ({ frames := 1, cells := 0, slots := 0, locals := 22 } : Room) G cy sz [(a_0, .inr (12, [.int k_0, .ref a_1, .ref a_2, .ref a_3, .ref a_4, .ref a_5, .int k_1, .int k_2, .int k_3, .int k_4, .int k_5, .long k_6, .int k_7, .int k_8, .int k_9, .int k_10, .ref a_6, .ref a_7, .ref a_8, .ref a_9, .ref a_10, .ref a_11, .ref a_12, .ref a_13, .ref a_14, .ref a_15, .ref a_16, .ref a_17, .ref a_18, .int i_0, .int i_1, .int i_2, .int i_3, .int i_4, .int i_5, .ref a_19, .int i_6, .ref a_20])), (a_6, .inl (cy 1, 5, .inl (fun _ => 0))), (a_7, .inl (cy 1, 30, .inl (fun _ => 0))), (a_9, .inl (cy 1, 15, .inl (fun _ => 0)))] [.ref a_0] (fun u : (Nat → Int32) × (Nat → Int32) × (Nat → Int32) => [(a_0, .inr (12, [.int k_0, .ref a_1, .ref a_2, .ref a_3, .ref a_4, .ref a_5, .int k_1, .int k_2, .int k_3, .int k_4, .int k_5, .long k_6, .int k_7, .int k_8, .int k_9, .int k_10, .ref a_6, .ref a_7, .ref a_8, .ref a_9, .ref a_10, .ref a_11, .ref a_12, .ref a_13, .ref a_14, .ref a_15, .ref a_16, .ref a_17, .ref a_18, .int i_0, .int i_1, .int i_2, .int i_3, .int i_4, .int i_5, .ref a_19, .int i_6, .ref a_20])), (a_6, .inl (cy 1, 5, .inl u.1)), (a_7, .inl (cy 1, 30, .inl u.2.1)), (a_9, .inl (cy 1, 15, .inl u.2.2))]) (fun u : (Nat → Int32) × (Nat → Int32) × (Nat → Int32) => mm_ar u.1 0 0 ∧ mm_ar u.2.1 0 0 ∧ mm_ar u.2.2 0 0) 0 0 := by
  refine mm_begin (lv := [(0, .ref a_0)]) (by decide) (Nat.le_of_ble_eq_true rfl) rfl ?_
  intro p e s m below meth c A ls R args Q H locs hRe hQ hAe hx hb hr hlocks hml hown hnm hts hsz hA hS hP hK hD hl
  have hRf : R.frames = 1 := by rw [hRe]
  have hRl : R.locals = 22 := by rw [hRe]
  have hRc : R.cells = 0 := by rw [hRe]
  have hRs : R.slots = 0 := by rw [hRe]
  refine lv_aload_n hx hb dX12_clears_0 rfl (lv_at hl 0 rfl) ?_
  refine va_get (D := G) (ci := 12) (v := .ref a_6) (C := RX12) (T := TX12) (N := 38) hx hb hts (mm_i inlX12) hown hK.1 hP 0 rfl rfl 16 (by decide) (mm_h hts mm_w148) (fun _ h9 => h9) rfl dX12_clears_1 ?_
  refine lv_iconst (v := 4) hx hb dX12_clears_4 (by decide) ?_
  refine lv_iconst (v := 0) hx hb dX12_clears_5 (by decide) ?_
  refine va_iast hx hb hK.1 hP hD hS 1 1 rfl rfl (mm_in mm_k4 (by decide)) dX12_clears_6 ?_
  clear hP hD hS
  clear H locs
  obtain ⟨g1, eg1⟩ : ∃ z : Nat → Int32, z = upd (fun _ => 0) (4 : Int32).toNatClampNeg 0 := ⟨_, rfl⟩
  rw [← eg1]
  intro H locs (hP : va_P G vwCl [(a_0, .inr (12, [.int k_0, .ref a_1, .ref a_2, .ref a_3, .ref a_4, .ref a_5, .int k_1, .int k_2, .int k_3, .int k_4, .int k_5, .long k_6, .int k_7, .int k_8, .int k_9, .int k_10, .ref a_6, .ref a_7, .ref a_8, .ref a_9, .ref a_10, .ref a_11, .ref a_12, .ref a_13, .ref a_14, .ref a_15, .ref a_16, .ref a_17, .ref a_18, .int i_0, .int i_1, .int i_2, .int i_3, .int i_4, .int i_5, .ref a_19, .int i_6, .ref a_20])), (a_6, .inl (cy 1, 5, .inl g1)), (a_7, .inl (cy 1, 30, .inl (fun _ => 0))), (a_9, .inl (cy 1, 15, .inl (fun _ => 0)))] H) (hD : va_D A [(a_0, .inr (12, [.int k_0, .ref a_1, .ref a_2, .ref a_3, .ref a_4, .ref a_5, .int k_1, .int k_2, .int k_3, .int k_4, .int k_5, .long k_6, .int k_7, .int k_8, .int k_9, .int k_10, .ref a_6, .ref a_7, .ref a_8, .ref a_9, .ref a_10, .ref a_11, .ref a_12, .ref a_13, .ref a_14, .ref a_15, .ref a_16, .ref a_17, .ref a_18, .int i_0, .int i_1, .int i_2, .int i_3, .int i_4, .int i_5, .ref a_19, .int i_6, .ref a_20])), (a_6, .inl (cy 1, 5, .inl g1)), (a_7, .inl (cy 1, 30, .inl (fun _ => 0))), (a_9, .inl (cy 1, 15, .inl (fun _ => 0)))]) hS
  have rg1 : mm_ar g1 0 0 := by rw [eg1]; exact mm_ar_upd (mm_ar_wk (mm_ar_c mm_k0) (by decide)) (mm_wk mm_k0 (by decide)) _
  refine lv_iconst (v := 0) hx hb dX12_clears_7 (by decide) ?_
  refine lv_istore_n (lv' := [(1, .int 0), (0, .ref a_0)]) hx hb dX12_clears_8 rfl hl (by decide) rfl ?_
  clear hl
  clear ls
  intro ls hl
  refine lv_iload_n hx hb dX12_clears_9 rfl (lv_at hl 0 rfl) ?_
  refine lv_bipush (v := 6) hx hb dX12_clears_10 (by decide) ?_
  refine lv_icmp_ge (tgt := 27) hx hb dX12_clears_12 (by decide) (fun c2 => ?_) (fun c2 => ?_)
  · have q3 := mm_leL (mm_le c2) mm_k6 mm_k0
    exact mm_no q3 (by decide)
  · refine lv_aload_n hx hb dX12_clears_15 rfl (lv_at hl 1 rfl) ?_
    refine lv_iload_n hx hb dX12_clears_16 rfl (lv_at hl 0 rfl) ?_
    refine lv_iconst (v := 0) hx hb dX12_clears_17 (by decide) ?_
    refine mm_finv (va_runV (As := [.int 0, .int 0]) (rest := []) ⟨hx, hb, hml, hown, hts⟩ (K62_X12_tells l G cy H.size a_0 k_0 a_1 a_2 a_3 a_4 a_5 k_1 k_2 k_3 k_4 k_5 k_6 k_7 k_8 k_9 k_10 a_6 a_7 a_8 a_9 a_10 a_11 a_12 a_13 a_14 a_15 a_16 a_17 a_18 i_0 i_1 i_2 i_3 i_4 i_5 a_19 i_6 a_20 ) (cwV 2 hts (mm_gV mm_w441 mm_w442 mm_w443 mm_w5 mm_w444) rfl rfl rfl hd_X12_tells ⟨by rw [hRf]; exact Nat.le_of_ble_eq_true rfl, by rw [hRl]; exact Nat.le_of_ble_eq_true rfl⟩) (mm_preV hK hP hD [0, 2] rfl rfl 0 rfl rfl rfl) rfl rfl hl.1 rfl (lv_room (Nat.le_of_ble_eq_true rfl)) dX12_clears_18 ⟨by rw [hRc]; exact Nat.le_of_ble_eq_true rfl, by rw [hRs]; exact Nat.le_of_ble_eq_true rfl⟩) hP hD hS hA (fun u : (Nat → Int32) => [(a_0, .inr (12, [.int k_0, .ref a_1, .ref a_2, .ref a_3, .ref a_4, .ref a_5, .int k_1, .int k_2, .int k_3, .int k_4, .int k_5, .long k_6, .int k_7, .int k_8, .int k_9, .int k_10, .ref a_6, .ref a_7, .ref a_8, .ref a_9, .ref a_10, .ref a_11, .ref a_12, .ref a_13, .ref a_14, .ref a_15, .ref a_16, .ref a_17, .ref a_18, .int i_0, .int i_1, .int i_2, .int i_3, .int i_4, .int i_5, .ref a_19, .int i_6, .ref a_20])), (a_6, .inl (cy 1, 5, .inl g1)), (a_7, .inl (cy 1, 30, .inl u)), (a_9, .inl (cy 1, 15, .inl (fun _ => 0)))]) [0, 2] [1, 3] (n := 4) (fun _ => rfl) (by decide +kernel) (by decide +kernel) rfl (fun _ => rfl) (wr := [(a_6, .inl (cy 1, 5, .inl g1)), (a_9, .inl (cy 1, 15, .inl (fun _ => 0)))]) rfl (fun _ => rfl) (fun _ => rfl) ?_
    clear hP hD hS
    clear H locs
    intro n4 H locs hw (hP : va_P G vwCl [(a_0, .inr (12, [.int k_0, .ref a_1, .ref a_2, .ref a_3, .ref a_4, .ref a_5, .int k_1, .int k_2, .int k_3, .int k_4, .int k_5, .long k_6, .int k_7, .int k_8, .int k_9, .int k_10, .ref a_6, .ref a_7, .ref a_8, .ref a_9, .ref a_10, .ref a_11, .ref a_12, .ref a_13, .ref a_14, .ref a_15, .ref a_16, .ref a_17, .ref a_18, .int i_0, .int i_1, .int i_2, .int i_3, .int i_4, .int i_5, .ref a_19, .int i_6, .ref a_20])), (a_6, .inl (cy 1, 5, .inl g1)), (a_7, .inl (cy 1, 30, .inl n4)), (a_9, .inl (cy 1, 15, .inl (fun _ => 0)))] H) (hD : va_D A [(a_0, .inr (12, [.int k_0, .ref a_1, .ref a_2, .ref a_3, .ref a_4, .ref a_5, .int k_1, .int k_2, .int k_3, .int k_4, .int k_5, .long k_6, .int k_7, .int k_8, .int k_9, .int k_10, .ref a_6, .ref a_7, .ref a_8, .ref a_9, .ref a_10, .ref a_11, .ref a_12, .ref a_13, .ref a_14, .ref a_15, .ref a_16, .ref a_17, .ref a_18, .int i_0, .int i_1, .int i_2, .int i_3, .int i_4, .int i_5, .ref a_19, .int i_6, .ref a_20])), (a_6, .inl (cy 1, 5, .inl g1)), (a_7, .inl (cy 1, 30, .inl n4)), (a_9, .inl (cy 1, 15, .inl (fun _ => 0)))]) hS
    have w5 := hw
    refine lv_iinc (v := 1) (lv' := [(1, .int 1), (0, .ref a_0)]) hx hb dX12_clears_21 hl (k := 0) rfl (by decide) (by decide) rfl ?_
    clear hl
    clear ls
    intro ls hl
    refine lv_goto (tgt := 9) hx hb dX12_clears_24 (by decide) ?_
    refine lv_iload_n hx hb dX12_clears_9 rfl (lv_at hl 0 rfl) ?_
    refine lv_bipush (v := 6) hx hb dX12_clears_10 (by decide) ?_
    refine lv_icmp_ge (tgt := 27) hx hb dX12_clears_12 (by decide) (fun c6 => ?_) (fun c6 => ?_)
    · have q7 := mm_leL (mm_le c6) mm_k6 mm_k1
      exact mm_no q7 (by decide)
    · refine lv_aload_n hx hb dX12_clears_15 rfl (lv_at hl 1 rfl) ?_
      refine lv_iload_n hx hb dX12_clears_16 rfl (lv_at hl 0 rfl) ?_
      refine lv_iconst (v := 0) hx hb dX12_clears_17 (by decide) ?_
      refine mm_finv (va_runV (As := [.int 1, .int 0]) (rest := []) ⟨hx, hb, hml, hown, hts⟩ (K63_X12_tells l G cy H.size a_0 k_0 a_1 a_2 a_3 a_4 a_5 k_1 k_2 k_3 k_4 k_5 k_6 k_7 k_8 k_9 k_10 a_6 a_7 a_8 a_9 a_10 a_11 a_12 a_13 a_14 a_15 a_16 a_17 a_18 i_0 i_1 i_2 i_3 i_4 i_5 a_19 i_6 a_20 n4 w5) (cwV 2 hts (mm_gV mm_w441 mm_w442 mm_w443 mm_w5 mm_w444) rfl rfl rfl hd_X12_tells ⟨by rw [hRf]; exact Nat.le_of_ble_eq_true rfl, by rw [hRl]; exact Nat.le_of_ble_eq_true rfl⟩) (mm_preV hK hP hD [0, 2] rfl rfl 0 rfl rfl rfl) rfl rfl hl.1 rfl (lv_room (Nat.le_of_ble_eq_true rfl)) dX12_clears_18 ⟨by rw [hRc]; exact Nat.le_of_ble_eq_true rfl, by rw [hRs]; exact Nat.le_of_ble_eq_true rfl⟩) hP hD hS hA (fun u : (Nat → Int32) => [(a_0, .inr (12, [.int k_0, .ref a_1, .ref a_2, .ref a_3, .ref a_4, .ref a_5, .int k_1, .int k_2, .int k_3, .int k_4, .int k_5, .long k_6, .int k_7, .int k_8, .int k_9, .int k_10, .ref a_6, .ref a_7, .ref a_8, .ref a_9, .ref a_10, .ref a_11, .ref a_12, .ref a_13, .ref a_14, .ref a_15, .ref a_16, .ref a_17, .ref a_18, .int i_0, .int i_1, .int i_2, .int i_3, .int i_4, .int i_5, .ref a_19, .int i_6, .ref a_20])), (a_6, .inl (cy 1, 5, .inl g1)), (a_7, .inl (cy 1, 30, .inl u)), (a_9, .inl (cy 1, 15, .inl (fun _ => 0)))]) [0, 2] [1, 3] (n := 4) (fun _ => rfl) (by decide +kernel) (by decide +kernel) rfl (fun _ => rfl) (wr := [(a_6, .inl (cy 1, 5, .inl g1)), (a_9, .inl (cy 1, 15, .inl (fun _ => 0)))]) rfl (fun _ => rfl) (fun _ => rfl) ?_
      clear hP hD hS
      clear H locs
      intro n8 H locs hw (hP : va_P G vwCl [(a_0, .inr (12, [.int k_0, .ref a_1, .ref a_2, .ref a_3, .ref a_4, .ref a_5, .int k_1, .int k_2, .int k_3, .int k_4, .int k_5, .long k_6, .int k_7, .int k_8, .int k_9, .int k_10, .ref a_6, .ref a_7, .ref a_8, .ref a_9, .ref a_10, .ref a_11, .ref a_12, .ref a_13, .ref a_14, .ref a_15, .ref a_16, .ref a_17, .ref a_18, .int i_0, .int i_1, .int i_2, .int i_3, .int i_4, .int i_5, .ref a_19, .int i_6, .ref a_20])), (a_6, .inl (cy 1, 5, .inl g1)), (a_7, .inl (cy 1, 30, .inl n8)), (a_9, .inl (cy 1, 15, .inl (fun _ => 0)))] H) (hD : va_D A [(a_0, .inr (12, [.int k_0, .ref a_1, .ref a_2, .ref a_3, .ref a_4, .ref a_5, .int k_1, .int k_2, .int k_3, .int k_4, .int k_5, .long k_6, .int k_7, .int k_8, .int k_9, .int k_10, .ref a_6, .ref a_7, .ref a_8, .ref a_9, .ref a_10, .ref a_11, .ref a_12, .ref a_13, .ref a_14, .ref a_15, .ref a_16, .ref a_17, .ref a_18, .int i_0, .int i_1, .int i_2, .int i_3, .int i_4, .int i_5, .ref a_19, .int i_6, .ref a_20])), (a_6, .inl (cy 1, 5, .inl g1)), (a_7, .inl (cy 1, 30, .inl n8)), (a_9, .inl (cy 1, 15, .inl (fun _ => 0)))]) hS
      have w9 := hw
      refine lv_iinc (v := 2) (lv' := [(1, .int 2), (0, .ref a_0)]) hx hb dX12_clears_21 hl (k := 0) rfl (by decide) (by decide) rfl ?_
      clear hl
      clear ls
      intro ls hl
      refine lv_goto (tgt := 9) hx hb dX12_clears_24 (by decide) ?_
      refine lv_iload_n hx hb dX12_clears_9 rfl (lv_at hl 0 rfl) ?_
      refine lv_bipush (v := 6) hx hb dX12_clears_10 (by decide) ?_
      refine lv_icmp_ge (tgt := 27) hx hb dX12_clears_12 (by decide) (fun c10 => ?_) (fun c10 => ?_)
      · have q11 := mm_leL (mm_le c10) mm_k6 mm_k2
        exact mm_no q11 (by decide)
      · refine lv_aload_n hx hb dX12_clears_15 rfl (lv_at hl 1 rfl) ?_
        refine lv_iload_n hx hb dX12_clears_16 rfl (lv_at hl 0 rfl) ?_
        refine lv_iconst (v := 0) hx hb dX12_clears_17 (by decide) ?_
        refine mm_finv (va_runV (As := [.int 2, .int 0]) (rest := []) ⟨hx, hb, hml, hown, hts⟩ (K64_X12_tells l G cy H.size a_0 k_0 a_1 a_2 a_3 a_4 a_5 k_1 k_2 k_3 k_4 k_5 k_6 k_7 k_8 k_9 k_10 a_6 a_7 a_8 a_9 a_10 a_11 a_12 a_13 a_14 a_15 a_16 a_17 a_18 i_0 i_1 i_2 i_3 i_4 i_5 a_19 i_6 a_20 n8 w9) (cwV 2 hts (mm_gV mm_w441 mm_w442 mm_w443 mm_w5 mm_w444) rfl rfl rfl hd_X12_tells ⟨by rw [hRf]; exact Nat.le_of_ble_eq_true rfl, by rw [hRl]; exact Nat.le_of_ble_eq_true rfl⟩) (mm_preV hK hP hD [0, 2] rfl rfl 0 rfl rfl rfl) rfl rfl hl.1 rfl (lv_room (Nat.le_of_ble_eq_true rfl)) dX12_clears_18 ⟨by rw [hRc]; exact Nat.le_of_ble_eq_true rfl, by rw [hRs]; exact Nat.le_of_ble_eq_true rfl⟩) hP hD hS hA (fun u : (Nat → Int32) => [(a_0, .inr (12, [.int k_0, .ref a_1, .ref a_2, .ref a_3, .ref a_4, .ref a_5, .int k_1, .int k_2, .int k_3, .int k_4, .int k_5, .long k_6, .int k_7, .int k_8, .int k_9, .int k_10, .ref a_6, .ref a_7, .ref a_8, .ref a_9, .ref a_10, .ref a_11, .ref a_12, .ref a_13, .ref a_14, .ref a_15, .ref a_16, .ref a_17, .ref a_18, .int i_0, .int i_1, .int i_2, .int i_3, .int i_4, .int i_5, .ref a_19, .int i_6, .ref a_20])), (a_6, .inl (cy 1, 5, .inl g1)), (a_7, .inl (cy 1, 30, .inl u)), (a_9, .inl (cy 1, 15, .inl (fun _ => 0)))]) [0, 2] [1, 3] (n := 4) (fun _ => rfl) (by decide +kernel) (by decide +kernel) rfl (fun _ => rfl) (wr := [(a_6, .inl (cy 1, 5, .inl g1)), (a_9, .inl (cy 1, 15, .inl (fun _ => 0)))]) rfl (fun _ => rfl) (fun _ => rfl) ?_
        clear hP hD hS
        clear H locs
        intro n12 H locs hw (hP : va_P G vwCl [(a_0, .inr (12, [.int k_0, .ref a_1, .ref a_2, .ref a_3, .ref a_4, .ref a_5, .int k_1, .int k_2, .int k_3, .int k_4, .int k_5, .long k_6, .int k_7, .int k_8, .int k_9, .int k_10, .ref a_6, .ref a_7, .ref a_8, .ref a_9, .ref a_10, .ref a_11, .ref a_12, .ref a_13, .ref a_14, .ref a_15, .ref a_16, .ref a_17, .ref a_18, .int i_0, .int i_1, .int i_2, .int i_3, .int i_4, .int i_5, .ref a_19, .int i_6, .ref a_20])), (a_6, .inl (cy 1, 5, .inl g1)), (a_7, .inl (cy 1, 30, .inl n12)), (a_9, .inl (cy 1, 15, .inl (fun _ => 0)))] H) (hD : va_D A [(a_0, .inr (12, [.int k_0, .ref a_1, .ref a_2, .ref a_3, .ref a_4, .ref a_5, .int k_1, .int k_2, .int k_3, .int k_4, .int k_5, .long k_6, .int k_7, .int k_8, .int k_9, .int k_10, .ref a_6, .ref a_7, .ref a_8, .ref a_9, .ref a_10, .ref a_11, .ref a_12, .ref a_13, .ref a_14, .ref a_15, .ref a_16, .ref a_17, .ref a_18, .int i_0, .int i_1, .int i_2, .int i_3, .int i_4, .int i_5, .ref a_19, .int i_6, .ref a_20])), (a_6, .inl (cy 1, 5, .inl g1)), (a_7, .inl (cy 1, 30, .inl n12)), (a_9, .inl (cy 1, 15, .inl (fun _ => 0)))]) hS
        have w13 := hw
        refine lv_iinc (v := 3) (lv' := [(1, .int 3), (0, .ref a_0)]) hx hb dX12_clears_21 hl (k := 0) rfl (by decide) (by decide) rfl ?_
        clear hl
        clear ls
        intro ls hl
        refine lv_goto (tgt := 9) hx hb dX12_clears_24 (by decide) ?_
        refine lv_iload_n hx hb dX12_clears_9 rfl (lv_at hl 0 rfl) ?_
        refine lv_bipush (v := 6) hx hb dX12_clears_10 (by decide) ?_
        refine lv_icmp_ge (tgt := 27) hx hb dX12_clears_12 (by decide) (fun c14 => ?_) (fun c14 => ?_)
        · have q15 := mm_leL (mm_le c14) mm_k6 mm_k3
          exact mm_no q15 (by decide)
        · refine lv_aload_n hx hb dX12_clears_15 rfl (lv_at hl 1 rfl) ?_
          refine lv_iload_n hx hb dX12_clears_16 rfl (lv_at hl 0 rfl) ?_
          refine lv_iconst (v := 0) hx hb dX12_clears_17 (by decide) ?_
          refine mm_finv (va_runV (As := [.int 3, .int 0]) (rest := []) ⟨hx, hb, hml, hown, hts⟩ (K65_X12_tells l G cy H.size a_0 k_0 a_1 a_2 a_3 a_4 a_5 k_1 k_2 k_3 k_4 k_5 k_6 k_7 k_8 k_9 k_10 a_6 a_7 a_8 a_9 a_10 a_11 a_12 a_13 a_14 a_15 a_16 a_17 a_18 i_0 i_1 i_2 i_3 i_4 i_5 a_19 i_6 a_20 n12 w13) (cwV 2 hts (mm_gV mm_w441 mm_w442 mm_w443 mm_w5 mm_w444) rfl rfl rfl hd_X12_tells ⟨by rw [hRf]; exact Nat.le_of_ble_eq_true rfl, by rw [hRl]; exact Nat.le_of_ble_eq_true rfl⟩) (mm_preV hK hP hD [0, 2] rfl rfl 0 rfl rfl rfl) rfl rfl hl.1 rfl (lv_room (Nat.le_of_ble_eq_true rfl)) dX12_clears_18 ⟨by rw [hRc]; exact Nat.le_of_ble_eq_true rfl, by rw [hRs]; exact Nat.le_of_ble_eq_true rfl⟩) hP hD hS hA (fun u : (Nat → Int32) => [(a_0, .inr (12, [.int k_0, .ref a_1, .ref a_2, .ref a_3, .ref a_4, .ref a_5, .int k_1, .int k_2, .int k_3, .int k_4, .int k_5, .long k_6, .int k_7, .int k_8, .int k_9, .int k_10, .ref a_6, .ref a_7, .ref a_8, .ref a_9, .ref a_10, .ref a_11, .ref a_12, .ref a_13, .ref a_14, .ref a_15, .ref a_16, .ref a_17, .ref a_18, .int i_0, .int i_1, .int i_2, .int i_3, .int i_4, .int i_5, .ref a_19, .int i_6, .ref a_20])), (a_6, .inl (cy 1, 5, .inl g1)), (a_7, .inl (cy 1, 30, .inl u)), (a_9, .inl (cy 1, 15, .inl (fun _ => 0)))]) [0, 2] [1, 3] (n := 4) (fun _ => rfl) (by decide +kernel) (by decide +kernel) rfl (fun _ => rfl) (wr := [(a_6, .inl (cy 1, 5, .inl g1)), (a_9, .inl (cy 1, 15, .inl (fun _ => 0)))]) rfl (fun _ => rfl) (fun _ => rfl) ?_
          clear hP hD hS
          clear H locs
          intro n16 H locs hw (hP : va_P G vwCl [(a_0, .inr (12, [.int k_0, .ref a_1, .ref a_2, .ref a_3, .ref a_4, .ref a_5, .int k_1, .int k_2, .int k_3, .int k_4, .int k_5, .long k_6, .int k_7, .int k_8, .int k_9, .int k_10, .ref a_6, .ref a_7, .ref a_8, .ref a_9, .ref a_10, .ref a_11, .ref a_12, .ref a_13, .ref a_14, .ref a_15, .ref a_16, .ref a_17, .ref a_18, .int i_0, .int i_1, .int i_2, .int i_3, .int i_4, .int i_5, .ref a_19, .int i_6, .ref a_20])), (a_6, .inl (cy 1, 5, .inl g1)), (a_7, .inl (cy 1, 30, .inl n16)), (a_9, .inl (cy 1, 15, .inl (fun _ => 0)))] H) (hD : va_D A [(a_0, .inr (12, [.int k_0, .ref a_1, .ref a_2, .ref a_3, .ref a_4, .ref a_5, .int k_1, .int k_2, .int k_3, .int k_4, .int k_5, .long k_6, .int k_7, .int k_8, .int k_9, .int k_10, .ref a_6, .ref a_7, .ref a_8, .ref a_9, .ref a_10, .ref a_11, .ref a_12, .ref a_13, .ref a_14, .ref a_15, .ref a_16, .ref a_17, .ref a_18, .int i_0, .int i_1, .int i_2, .int i_3, .int i_4, .int i_5, .ref a_19, .int i_6, .ref a_20])), (a_6, .inl (cy 1, 5, .inl g1)), (a_7, .inl (cy 1, 30, .inl n16)), (a_9, .inl (cy 1, 15, .inl (fun _ => 0)))]) hS
          have w17 := hw
          refine lv_iinc (v := 4) (lv' := [(1, .int 4), (0, .ref a_0)]) hx hb dX12_clears_21 hl (k := 0) rfl (by decide) (by decide) rfl ?_
          clear hl
          clear ls
          intro ls hl
          refine lv_goto (tgt := 9) hx hb dX12_clears_24 (by decide) ?_
          refine lv_iload_n hx hb dX12_clears_9 rfl (lv_at hl 0 rfl) ?_
          refine lv_bipush (v := 6) hx hb dX12_clears_10 (by decide) ?_
          refine lv_icmp_ge (tgt := 27) hx hb dX12_clears_12 (by decide) (fun c18 => ?_) (fun c18 => ?_)
          · have q19 := mm_leL (mm_le c18) mm_k6 mm_k4
            exact mm_no q19 (by decide)
          · refine lv_aload_n hx hb dX12_clears_15 rfl (lv_at hl 1 rfl) ?_
            refine lv_iload_n hx hb dX12_clears_16 rfl (lv_at hl 0 rfl) ?_
            refine lv_iconst (v := 0) hx hb dX12_clears_17 (by decide) ?_
            refine mm_finv (va_runV (As := [.int 4, .int 0]) (rest := []) ⟨hx, hb, hml, hown, hts⟩ (K66_X12_tells l G cy H.size a_0 k_0 a_1 a_2 a_3 a_4 a_5 k_1 k_2 k_3 k_4 k_5 k_6 k_7 k_8 k_9 k_10 a_6 a_7 a_8 a_9 a_10 a_11 a_12 a_13 a_14 a_15 a_16 a_17 a_18 i_0 i_1 i_2 i_3 i_4 i_5 a_19 i_6 a_20 n16 w17) (cwV 2 hts (mm_gV mm_w441 mm_w442 mm_w443 mm_w5 mm_w444) rfl rfl rfl hd_X12_tells ⟨by rw [hRf]; exact Nat.le_of_ble_eq_true rfl, by rw [hRl]; exact Nat.le_of_ble_eq_true rfl⟩) (mm_preV hK hP hD [0, 2] rfl rfl 0 rfl rfl rfl) rfl rfl hl.1 rfl (lv_room (Nat.le_of_ble_eq_true rfl)) dX12_clears_18 ⟨by rw [hRc]; exact Nat.le_of_ble_eq_true rfl, by rw [hRs]; exact Nat.le_of_ble_eq_true rfl⟩) hP hD hS hA (fun u : (Nat → Int32) => [(a_0, .inr (12, [.int k_0, .ref a_1, .ref a_2, .ref a_3, .ref a_4, .ref a_5, .int k_1, .int k_2, .int k_3, .int k_4, .int k_5, .long k_6, .int k_7, .int k_8, .int k_9, .int k_10, .ref a_6, .ref a_7, .ref a_8, .ref a_9, .ref a_10, .ref a_11, .ref a_12, .ref a_13, .ref a_14, .ref a_15, .ref a_16, .ref a_17, .ref a_18, .int i_0, .int i_1, .int i_2, .int i_3, .int i_4, .int i_5, .ref a_19, .int i_6, .ref a_20])), (a_6, .inl (cy 1, 5, .inl g1)), (a_7, .inl (cy 1, 30, .inl u)), (a_9, .inl (cy 1, 15, .inl (fun _ => 0)))]) [0, 2] [1, 3] (n := 4) (fun _ => rfl) (by decide +kernel) (by decide +kernel) rfl (fun _ => rfl) (wr := [(a_6, .inl (cy 1, 5, .inl g1)), (a_9, .inl (cy 1, 15, .inl (fun _ => 0)))]) rfl (fun _ => rfl) (fun _ => rfl) ?_
            clear hP hD hS
            clear H locs
            intro n20 H locs hw (hP : va_P G vwCl [(a_0, .inr (12, [.int k_0, .ref a_1, .ref a_2, .ref a_3, .ref a_4, .ref a_5, .int k_1, .int k_2, .int k_3, .int k_4, .int k_5, .long k_6, .int k_7, .int k_8, .int k_9, .int k_10, .ref a_6, .ref a_7, .ref a_8, .ref a_9, .ref a_10, .ref a_11, .ref a_12, .ref a_13, .ref a_14, .ref a_15, .ref a_16, .ref a_17, .ref a_18, .int i_0, .int i_1, .int i_2, .int i_3, .int i_4, .int i_5, .ref a_19, .int i_6, .ref a_20])), (a_6, .inl (cy 1, 5, .inl g1)), (a_7, .inl (cy 1, 30, .inl n20)), (a_9, .inl (cy 1, 15, .inl (fun _ => 0)))] H) (hD : va_D A [(a_0, .inr (12, [.int k_0, .ref a_1, .ref a_2, .ref a_3, .ref a_4, .ref a_5, .int k_1, .int k_2, .int k_3, .int k_4, .int k_5, .long k_6, .int k_7, .int k_8, .int k_9, .int k_10, .ref a_6, .ref a_7, .ref a_8, .ref a_9, .ref a_10, .ref a_11, .ref a_12, .ref a_13, .ref a_14, .ref a_15, .ref a_16, .ref a_17, .ref a_18, .int i_0, .int i_1, .int i_2, .int i_3, .int i_4, .int i_5, .ref a_19, .int i_6, .ref a_20])), (a_6, .inl (cy 1, 5, .inl g1)), (a_7, .inl (cy 1, 30, .inl n20)), (a_9, .inl (cy 1, 15, .inl (fun _ => 0)))]) hS
            have w21 := hw
            refine lv_iinc (v := 5) (lv' := [(1, .int 5), (0, .ref a_0)]) hx hb dX12_clears_21 hl (k := 0) rfl (by decide) (by decide) rfl ?_
            clear hl
            clear ls
            intro ls hl
            refine lv_goto (tgt := 9) hx hb dX12_clears_24 (by decide) ?_
            refine lv_iload_n hx hb dX12_clears_9 rfl (lv_at hl 0 rfl) ?_
            refine lv_bipush (v := 6) hx hb dX12_clears_10 (by decide) ?_
            refine lv_icmp_ge (tgt := 27) hx hb dX12_clears_12 (by decide) (fun c22 => ?_) (fun c22 => ?_)
            · have q23 := mm_leL (mm_le c22) mm_k6 mm_k5
              exact mm_no q23 (by decide)
            · refine lv_aload_n hx hb dX12_clears_15 rfl (lv_at hl 1 rfl) ?_
              refine lv_iload_n hx hb dX12_clears_16 rfl (lv_at hl 0 rfl) ?_
              refine lv_iconst (v := 0) hx hb dX12_clears_17 (by decide) ?_
              refine mm_finv (va_runV (As := [.int 5, .int 0]) (rest := []) ⟨hx, hb, hml, hown, hts⟩ (K67_X12_tells l G cy H.size a_0 k_0 a_1 a_2 a_3 a_4 a_5 k_1 k_2 k_3 k_4 k_5 k_6 k_7 k_8 k_9 k_10 a_6 a_7 a_8 a_9 a_10 a_11 a_12 a_13 a_14 a_15 a_16 a_17 a_18 i_0 i_1 i_2 i_3 i_4 i_5 a_19 i_6 a_20 n20 w21) (cwV 2 hts (mm_gV mm_w441 mm_w442 mm_w443 mm_w5 mm_w444) rfl rfl rfl hd_X12_tells ⟨by rw [hRf]; exact Nat.le_of_ble_eq_true rfl, by rw [hRl]; exact Nat.le_of_ble_eq_true rfl⟩) (mm_preV hK hP hD [0, 2] rfl rfl 0 rfl rfl rfl) rfl rfl hl.1 rfl (lv_room (Nat.le_of_ble_eq_true rfl)) dX12_clears_18 ⟨by rw [hRc]; exact Nat.le_of_ble_eq_true rfl, by rw [hRs]; exact Nat.le_of_ble_eq_true rfl⟩) hP hD hS hA (fun u : (Nat → Int32) => [(a_0, .inr (12, [.int k_0, .ref a_1, .ref a_2, .ref a_3, .ref a_4, .ref a_5, .int k_1, .int k_2, .int k_3, .int k_4, .int k_5, .long k_6, .int k_7, .int k_8, .int k_9, .int k_10, .ref a_6, .ref a_7, .ref a_8, .ref a_9, .ref a_10, .ref a_11, .ref a_12, .ref a_13, .ref a_14, .ref a_15, .ref a_16, .ref a_17, .ref a_18, .int i_0, .int i_1, .int i_2, .int i_3, .int i_4, .int i_5, .ref a_19, .int i_6, .ref a_20])), (a_6, .inl (cy 1, 5, .inl g1)), (a_7, .inl (cy 1, 30, .inl u)), (a_9, .inl (cy 1, 15, .inl (fun _ => 0)))]) [0, 2] [1, 3] (n := 4) (fun _ => rfl) (by decide +kernel) (by decide +kernel) rfl (fun _ => rfl) (wr := [(a_6, .inl (cy 1, 5, .inl g1)), (a_9, .inl (cy 1, 15, .inl (fun _ => 0)))]) rfl (fun _ => rfl) (fun _ => rfl) ?_
              clear hP hD hS
              clear H locs
              intro n24 H locs hw (hP : va_P G vwCl [(a_0, .inr (12, [.int k_0, .ref a_1, .ref a_2, .ref a_3, .ref a_4, .ref a_5, .int k_1, .int k_2, .int k_3, .int k_4, .int k_5, .long k_6, .int k_7, .int k_8, .int k_9, .int k_10, .ref a_6, .ref a_7, .ref a_8, .ref a_9, .ref a_10, .ref a_11, .ref a_12, .ref a_13, .ref a_14, .ref a_15, .ref a_16, .ref a_17, .ref a_18, .int i_0, .int i_1, .int i_2, .int i_3, .int i_4, .int i_5, .ref a_19, .int i_6, .ref a_20])), (a_6, .inl (cy 1, 5, .inl g1)), (a_7, .inl (cy 1, 30, .inl n24)), (a_9, .inl (cy 1, 15, .inl (fun _ => 0)))] H) (hD : va_D A [(a_0, .inr (12, [.int k_0, .ref a_1, .ref a_2, .ref a_3, .ref a_4, .ref a_5, .int k_1, .int k_2, .int k_3, .int k_4, .int k_5, .long k_6, .int k_7, .int k_8, .int k_9, .int k_10, .ref a_6, .ref a_7, .ref a_8, .ref a_9, .ref a_10, .ref a_11, .ref a_12, .ref a_13, .ref a_14, .ref a_15, .ref a_16, .ref a_17, .ref a_18, .int i_0, .int i_1, .int i_2, .int i_3, .int i_4, .int i_5, .ref a_19, .int i_6, .ref a_20])), (a_6, .inl (cy 1, 5, .inl g1)), (a_7, .inl (cy 1, 30, .inl n24)), (a_9, .inl (cy 1, 15, .inl (fun _ => 0)))]) hS
              have w25 := hw
              refine lv_iinc (v := 6) (lv' := [(1, .int 6), (0, .ref a_0)]) hx hb dX12_clears_21 hl (k := 0) rfl (by decide) (by decide) rfl ?_
              clear hl
              clear ls
              intro ls hl
              refine lv_goto (tgt := 9) hx hb dX12_clears_24 (by decide) ?_
              refine lv_iload_n hx hb dX12_clears_9 rfl (lv_at hl 0 rfl) ?_
              refine lv_bipush (v := 6) hx hb dX12_clears_10 (by decide) ?_
              refine lv_icmp_ge (tgt := 27) hx hb dX12_clears_12 (by decide) (fun c26 => ?_) (fun c26 => ?_)
              · refine lv_iconst (v := 0) hx hb dX12_clears_27 (by decide) ?_
                refine lv_istore_n (lv' := [(1, .int 0), (0, .ref a_0)]) hx hb dX12_clears_28 rfl hl (by decide) rfl ?_
                clear hl
                clear ls
                intro ls hl
                refine lv_iload_n hx hb dX12_clears_29 rfl (lv_at hl 0 rfl) ?_
                refine lv_iconst (v := 3) hx hb dX12_clears_30 (by decide) ?_
                refine lv_icmp_ge (tgt := 50) hx hb dX12_clears_31 (by decide) (fun c27 => ?_) (fun c27 => ?_)
                · have q28 := mm_leL (mm_le c27) mm_k3 mm_k0
                  exact mm_no q28 (by decide)
                · refine lv_aload_n hx hb dX12_clears_34 rfl (lv_at hl 1 rfl) ?_
                  refine va_get (D := G) (ci := 12) (v := .ref a_9) (C := RX12) (T := TX12) (N := 38) hx hb hts (mm_i inlX12) hown hK.1 hP 0 rfl rfl 19 (by decide) (mm_h hts mm_w151) (fun _ h9 => h9) rfl dX12_clears_35 ?_
                  refine lv_bipush (v := 12) hx hb dX12_clears_38 (by decide) ?_
                  refine lv_iload_n hx hb dX12_clears_40 rfl (lv_at hl 0 rfl) ?_
                  refine lv_iadd hx hb dX12_clears_41 ?_
                  refine lv_topi (fun v29 ev29 => ?_)
                  obtain rfl : v29 = 12 := ev29.trans (by decide)
                  refine lv_iconst (v := 0) hx hb dX12_clears_42 (by decide) ?_
                  refine va_iast hx hb hK.1 hP hD hS 3 1 rfl rfl (mm_in mm_k12 (by decide)) dX12_clears_43 ?_
                  clear hP hD hS
                  clear H locs
                  obtain ⟨g30, eg30⟩ : ∃ z : Nat → Int32, z = upd (fun _ => 0) (12 : Int32).toNatClampNeg 0 := ⟨_, rfl⟩
                  rw [← eg30]
                  intro H locs (hP : va_P G vwCl [(a_0, .inr (12, [.int k_0, .ref a_1, .ref a_2, .ref a_3, .ref a_4, .ref a_5, .int k_1, .int k_2, .int k_3, .int k_4, .int k_5, .long k_6, .int k_7, .int k_8, .int k_9, .int k_10, .ref a_6, .ref a_7, .ref a_8, .ref a_9, .ref a_10, .ref a_11, .ref a_12, .ref a_13, .ref a_14, .ref a_15, .ref a_16, .ref a_17, .ref a_18, .int i_0, .int i_1, .int i_2, .int i_3, .int i_4, .int i_5, .ref a_19, .int i_6, .ref a_20])), (a_6, .inl (cy 1, 5, .inl g1)), (a_7, .inl (cy 1, 30, .inl n24)), (a_9, .inl (cy 1, 15, .inl g30))] H) (hD : va_D A [(a_0, .inr (12, [.int k_0, .ref a_1, .ref a_2, .ref a_3, .ref a_4, .ref a_5, .int k_1, .int k_2, .int k_3, .int k_4, .int k_5, .long k_6, .int k_7, .int k_8, .int k_9, .int k_10, .ref a_6, .ref a_7, .ref a_8, .ref a_9, .ref a_10, .ref a_11, .ref a_12, .ref a_13, .ref a_14, .ref a_15, .ref a_16, .ref a_17, .ref a_18, .int i_0, .int i_1, .int i_2, .int i_3, .int i_4, .int i_5, .ref a_19, .int i_6, .ref a_20])), (a_6, .inl (cy 1, 5, .inl g1)), (a_7, .inl (cy 1, 30, .inl n24)), (a_9, .inl (cy 1, 15, .inl g30))]) hS
                  have rg30 : mm_ar g30 0 0 := by rw [eg30]; exact mm_ar_upd (mm_ar_wk (mm_ar_c mm_k0) (by decide)) (mm_wk mm_k0 (by decide)) _
                  refine lv_iinc (v := 1) (lv' := [(1, .int 1), (0, .ref a_0)]) hx hb dX12_clears_44 hl (k := 0) rfl (by decide) (by decide) rfl ?_
                  clear hl
                  clear ls
                  intro ls hl
                  refine lv_goto (tgt := 29) hx hb dX12_clears_47 (by decide) ?_
                  refine lv_iload_n hx hb dX12_clears_29 rfl (lv_at hl 0 rfl) ?_
                  refine lv_iconst (v := 3) hx hb dX12_clears_30 (by decide) ?_
                  refine lv_icmp_ge (tgt := 50) hx hb dX12_clears_31 (by decide) (fun c31 => ?_) (fun c31 => ?_)
                  · have q32 := mm_leL (mm_le c31) mm_k3 mm_k1
                    exact mm_no q32 (by decide)
                  · refine lv_aload_n hx hb dX12_clears_34 rfl (lv_at hl 1 rfl) ?_
                    refine va_get (D := G) (ci := 12) (v := .ref a_9) (C := RX12) (T := TX12) (N := 38) hx hb hts (mm_i inlX12) hown hK.1 hP 0 rfl rfl 19 (by decide) (mm_h hts mm_w151) (fun _ h9 => h9) rfl dX12_clears_35 ?_
                    refine lv_bipush (v := 12) hx hb dX12_clears_38 (by decide) ?_
                    refine lv_iload_n hx hb dX12_clears_40 rfl (lv_at hl 0 rfl) ?_
                    refine lv_iadd hx hb dX12_clears_41 ?_
                    refine lv_topi (fun v33 ev33 => ?_)
                    obtain rfl : v33 = 13 := ev33.trans (by decide)
                    refine lv_iconst (v := 0) hx hb dX12_clears_42 (by decide) ?_
                    refine va_iast hx hb hK.1 hP hD hS 3 1 rfl rfl (mm_in mm_k13 (by decide)) dX12_clears_43 ?_
                    clear hP hD hS
                    clear H locs
                    obtain ⟨g34, eg34⟩ : ∃ z : Nat → Int32, z = upd g30 (13 : Int32).toNatClampNeg 0 := ⟨_, rfl⟩
                    rw [← eg34]
                    intro H locs (hP : va_P G vwCl [(a_0, .inr (12, [.int k_0, .ref a_1, .ref a_2, .ref a_3, .ref a_4, .ref a_5, .int k_1, .int k_2, .int k_3, .int k_4, .int k_5, .long k_6, .int k_7, .int k_8, .int k_9, .int k_10, .ref a_6, .ref a_7, .ref a_8, .ref a_9, .ref a_10, .ref a_11, .ref a_12, .ref a_13, .ref a_14, .ref a_15, .ref a_16, .ref a_17, .ref a_18, .int i_0, .int i_1, .int i_2, .int i_3, .int i_4, .int i_5, .ref a_19, .int i_6, .ref a_20])), (a_6, .inl (cy 1, 5, .inl g1)), (a_7, .inl (cy 1, 30, .inl n24)), (a_9, .inl (cy 1, 15, .inl g34))] H) (hD : va_D A [(a_0, .inr (12, [.int k_0, .ref a_1, .ref a_2, .ref a_3, .ref a_4, .ref a_5, .int k_1, .int k_2, .int k_3, .int k_4, .int k_5, .long k_6, .int k_7, .int k_8, .int k_9, .int k_10, .ref a_6, .ref a_7, .ref a_8, .ref a_9, .ref a_10, .ref a_11, .ref a_12, .ref a_13, .ref a_14, .ref a_15, .ref a_16, .ref a_17, .ref a_18, .int i_0, .int i_1, .int i_2, .int i_3, .int i_4, .int i_5, .ref a_19, .int i_6, .ref a_20])), (a_6, .inl (cy 1, 5, .inl g1)), (a_7, .inl (cy 1, 30, .inl n24)), (a_9, .inl (cy 1, 15, .inl g34))]) hS
                    have rg34 : mm_ar g34 0 0 := by rw [eg34]; exact mm_ar_upd (mm_ar_wk rg30 (by decide)) (mm_wk mm_k0 (by decide)) _
                    refine lv_iinc (v := 2) (lv' := [(1, .int 2), (0, .ref a_0)]) hx hb dX12_clears_44 hl (k := 0) rfl (by decide) (by decide) rfl ?_
                    clear hl
                    clear ls
                    intro ls hl
                    refine lv_goto (tgt := 29) hx hb dX12_clears_47 (by decide) ?_
                    refine lv_iload_n hx hb dX12_clears_29 rfl (lv_at hl 0 rfl) ?_
                    refine lv_iconst (v := 3) hx hb dX12_clears_30 (by decide) ?_
                    refine lv_icmp_ge (tgt := 50) hx hb dX12_clears_31 (by decide) (fun c35 => ?_) (fun c35 => ?_)
                    · have q36 := mm_leL (mm_le c35) mm_k3 mm_k2
                      exact mm_no q36 (by decide)
                    · refine lv_aload_n hx hb dX12_clears_34 rfl (lv_at hl 1 rfl) ?_
                      refine va_get (D := G) (ci := 12) (v := .ref a_9) (C := RX12) (T := TX12) (N := 38) hx hb hts (mm_i inlX12) hown hK.1 hP 0 rfl rfl 19 (by decide) (mm_h hts mm_w151) (fun _ h9 => h9) rfl dX12_clears_35 ?_
                      refine lv_bipush (v := 12) hx hb dX12_clears_38 (by decide) ?_
                      refine lv_iload_n hx hb dX12_clears_40 rfl (lv_at hl 0 rfl) ?_
                      refine lv_iadd hx hb dX12_clears_41 ?_
                      refine lv_topi (fun v37 ev37 => ?_)
                      obtain rfl : v37 = 14 := ev37.trans (by decide)
                      refine lv_iconst (v := 0) hx hb dX12_clears_42 (by decide) ?_
                      refine va_iast hx hb hK.1 hP hD hS 3 1 rfl rfl (mm_in mm_k14 (by decide)) dX12_clears_43 ?_
                      clear hP hD hS
                      clear H locs
                      obtain ⟨g38, eg38⟩ : ∃ z : Nat → Int32, z = upd g34 (14 : Int32).toNatClampNeg 0 := ⟨_, rfl⟩
                      rw [← eg38]
                      intro H locs (hP : va_P G vwCl [(a_0, .inr (12, [.int k_0, .ref a_1, .ref a_2, .ref a_3, .ref a_4, .ref a_5, .int k_1, .int k_2, .int k_3, .int k_4, .int k_5, .long k_6, .int k_7, .int k_8, .int k_9, .int k_10, .ref a_6, .ref a_7, .ref a_8, .ref a_9, .ref a_10, .ref a_11, .ref a_12, .ref a_13, .ref a_14, .ref a_15, .ref a_16, .ref a_17, .ref a_18, .int i_0, .int i_1, .int i_2, .int i_3, .int i_4, .int i_5, .ref a_19, .int i_6, .ref a_20])), (a_6, .inl (cy 1, 5, .inl g1)), (a_7, .inl (cy 1, 30, .inl n24)), (a_9, .inl (cy 1, 15, .inl g38))] H) (hD : va_D A [(a_0, .inr (12, [.int k_0, .ref a_1, .ref a_2, .ref a_3, .ref a_4, .ref a_5, .int k_1, .int k_2, .int k_3, .int k_4, .int k_5, .long k_6, .int k_7, .int k_8, .int k_9, .int k_10, .ref a_6, .ref a_7, .ref a_8, .ref a_9, .ref a_10, .ref a_11, .ref a_12, .ref a_13, .ref a_14, .ref a_15, .ref a_16, .ref a_17, .ref a_18, .int i_0, .int i_1, .int i_2, .int i_3, .int i_4, .int i_5, .ref a_19, .int i_6, .ref a_20])), (a_6, .inl (cy 1, 5, .inl g1)), (a_7, .inl (cy 1, 30, .inl n24)), (a_9, .inl (cy 1, 15, .inl g38))]) hS
                      have rg38 : mm_ar g38 0 0 := by rw [eg38]; exact mm_ar_upd (mm_ar_wk rg34 (by decide)) (mm_wk mm_k0 (by decide)) _
                      refine lv_iinc (v := 3) (lv' := [(1, .int 3), (0, .ref a_0)]) hx hb dX12_clears_44 hl (k := 0) rfl (by decide) (by decide) rfl ?_
                      clear hl
                      clear ls
                      intro ls hl
                      refine lv_goto (tgt := 29) hx hb dX12_clears_47 (by decide) ?_
                      refine lv_iload_n hx hb dX12_clears_29 rfl (lv_at hl 0 rfl) ?_
                      refine lv_iconst (v := 3) hx hb dX12_clears_30 (by decide) ?_
                      refine lv_icmp_ge (tgt := 50) hx hb dX12_clears_31 (by decide) (fun c39 => ?_) (fun c39 => ?_)
                      · subst hAe
                        rw [hQ]
                        exact W.vret hx hb hr (fun t ht hW => ⟨⟨(g1, n24, g38), rfl, ⟨rg1, w25, rg38⟩, by rw [ht]; exact hP, hK.warm hW, hD⟩, hS.F ht⟩) hS.2.2 dX12_clears_50
                      · have q40 := mm_ltL (h := 2) (mm_nle c39) mm_k3 mm_k3 (by decide)
                        exact mm_no q40 (by decide)
              · have q41 := mm_ltL (h := 5) (mm_nle c26) mm_k6 mm_k6 (by decide)
                exact mm_no q41 (by decide)

set_option maxHeartbeats 4000000 in
set_option maxRecDepth 100000 in
theorem K96_X12_isByte (l : Launch) (G : va_G) (cy : Nat → ClassId) (sz : Nat) (a_0 : Nat) (k_0 : Int32) (a_1 : Nat) (a_2 : Nat) (a_3 : Nat) (a_4 : Nat) (a_5 : Nat) (k_1 : Int32) (k_2 : Int32) (k_3 : Int32) (k_4 : Int32) (k_5 : Int64) (k_6 : Int32) (k_7 : Int32) (k_8 : Int32) (k_9 : Int32) (a_6 : Nat) (a_7 : Nat) (a_8 : Nat) (a_9 : Nat) (a_10 : Nat) (a_11 : Nat) (a_12 : Nat) (a_13 : Nat) (a_14 : Nat) (a_15 : Nat) (a_16 : Nat) (a_17 : Nat) (a_18 : Nat) (i_0 : Int32) (i_1 : Int32) (i_2 : Int32) (i_3 : Int32) (i_4 : Int32) (i_5 : Int32) (a_19 : Nat) (i_6 : Int32) (a_20 : Nat)   : mm_CI l yX12_isByte (mm_ws yX12_isByte cX12_isByte 4 (some .boolean)) ({ frames := 0, cells := 0, slots := 0, locals := 0 } : Room) G cy sz [(a_0, .inr (12, [.int k_0, .ref a_1, .ref a_2, .ref a_3, .ref a_4, .ref a_5, .int 0, .int k_1, .int k_2, .int k_3, .int k_4, .long k_5, .int k_6, .int k_7, .int k_8, .int k_9, .ref a_6, .ref a_7, .ref a_8, .ref a_9, .ref a_10, .ref a_11, .ref a_12, .ref a_13, .ref a_14, .ref a_15, .ref a_16, .ref a_17, .ref a_18, .int i_0, .int i_1, .int i_2, .int i_3, .int i_4, .int i_5, .ref a_19, .int i_6, .ref a_20]))] [.ref a_0, .int 0, .int 32, .int 32] (fun u : Unit => [(a_0, .inr (12, [.int k_0, .ref a_1, .ref a_2, .ref a_3, .ref a_4, .ref a_5, .int 0, .int k_1, .int k_2, .int k_3, .int k_4, .long k_5, .int k_6, .int k_7, .int k_8, .int k_9, .ref a_6, .ref a_7, .ref a_8, .ref a_9, .ref a_10, .ref a_11, .ref a_12, .ref a_13, .ref a_14, .ref a_15, .ref a_16, .ref a_17, .ref a_18, .int i_0, .int i_1, .int i_2, .int i_3, .int i_4, .int i_5, .ref a_19, .int i_6, .ref a_20]))]) (fun (r : Int32) (u : Unit) => 0 = r) 0 0 := by
  refine mm_begin (lv := [(0, .ref a_0), (1, .int 0), (2, .int 32), (3, .int 32)]) (by decide) (Nat.le_of_ble_eq_true rfl) rfl ?_
  intro p e s m below meth c A ls R args Q H locs hRe hQ hAe hx hb hr hlocks hml hown hnm hts hsz hA hS hP hK hD hl
  have hRf : R.frames = 0 := by rw [hRe]
  have hRl : R.locals = 0 := by rw [hRe]
  have hRc : R.cells = 0 := by rw [hRe]
  have hRs : R.slots = 0 := by rw [hRe]
  refine lv_iload_n hx hb dX12_isByte_0 rfl (lv_at hl 1 rfl) ?_
  refine lv_aload_n hx hb dX12_isByte_1 rfl (lv_at hl 0 rfl) ?_
  refine va_get (D := G) (ci := 12) (v := .int 0) (C := RX12) (T := TX12) (N := 38) hx hb hts (mm_i inlX12) hown hK.1 hP 0 rfl rfl 6 (by decide) (mm_h hts mm_w178) (fun _ h9 => h9) rfl dX12_isByte_2 ?_
  refine lv_icmp_ge (tgt := 32) hx hb dX12_isByte_5 (by decide) (fun c1 => ?_) (fun c1 => ?_)
  · refine lv_iconst (v := 0) hx hb dX12_isByte_32 (by decide) ?_
    subst hAe
    rw [hQ]
    exact W.zret (v := 0) hx hb hr rfl (fun t ht hW => ⟨⟨0, (), rfl, rfl, by rw [ht]; exact hP, hK.warm hW, hD⟩, hS.F ht⟩) hS.2.2 dX12_isByte_33
  · have q2 := mm_ltL (h := (-1)) (mm_nle c1) mm_k0 mm_k0 (by decide)
    exact mm_no q2 (by decide)

set_option maxHeartbeats 4000000 in
set_option maxRecDepth 100000 in
theorem K97_X12_isByte (l : Launch) (G : va_G) (cy : Nat → ClassId) (sz : Nat) (a_0 : Nat) (k_0 : Int32) (a_1 : Nat) (a_2 : Nat) (a_3 : Nat) (a_4 : Nat) (a_5 : Nat) (k_1 : Int32) (k_2 : Int32) (k_3 : Int32) (k_4 : Int32) (k_5 : Int64) (k_6 : Int32) (k_7 : Int32) (k_8 : Int32) (k_9 : Int32) (a_6 : Nat) (a_7 : Nat) (a_8 : Nat) (a_9 : Nat) (a_10 : Nat) (a_11 : Nat) (a_12 : Nat) (a_13 : Nat) (a_14 : Nat) (a_15 : Nat) (a_16 : Nat) (a_17 : Nat) (a_18 : Nat) (i_0 : Int32) (i_1 : Int32) (i_2 : Int32) (i_3 : Int32) (i_4 : Int32) (i_5 : Int32) (a_19 : Nat) (i_6 : Int32) (a_20 : Nat)   : mm_CI l yX12_isByte (mm_ws yX12_isByte cX12_isByte 4 (some .boolean)) ({ frames := 0, cells := 0, slots := 0, locals := 0 } : Room) G cy sz [(a_0, .inr (12, [.int k_0, .ref a_1, .ref a_2, .ref a_3, .ref a_4, .ref a_5, .int 0, .int k_1, .int k_2, .int k_3, .int k_4, .long k_5, .int k_6, .int k_7, .int k_8, .int k_9, .ref a_6, .ref a_7, .ref a_8, .ref a_9, .ref a_10, .ref a_11, .ref a_12, .ref a_13, .ref a_14, .ref a_15, .ref a_16, .ref a_17, .ref a_18, .int i_0, .int i_1, .int i_2, .int i_3, .int i_4, .int i_5, .ref a_19, .int i_6, .ref a_20]))] [.ref a_0, .int 0, .int 10, .int 10] (fun u : Unit => [(a_0, .inr (12, [.int k_0, .ref a_1, .ref a_2, .ref a_3, .ref a_4, .ref a_5, .int 0, .int k_1, .int k_2, .int k_3, .int k_4, .long k_5, .int k_6, .int k_7, .int k_8, .int k_9, .ref a_6, .ref a_7, .ref a_8, .ref a_9, .ref a_10, .ref a_11, .ref a_12, .ref a_13, .ref a_14, .ref a_15, .ref a_16, .ref a_17, .ref a_18, .int i_0, .int i_1, .int i_2, .int i_3, .int i_4, .int i_5, .ref a_19, .int i_6, .ref a_20]))]) (fun (r : Int32) (u : Unit) => 0 = r) 0 0 := by
  refine mm_begin (lv := [(0, .ref a_0), (1, .int 0), (2, .int 10), (3, .int 10)]) (by decide) (Nat.le_of_ble_eq_true rfl) rfl ?_
  intro p e s m below meth c A ls R args Q H locs hRe hQ hAe hx hb hr hlocks hml hown hnm hts hsz hA hS hP hK hD hl
  have hRf : R.frames = 0 := by rw [hRe]
  have hRl : R.locals = 0 := by rw [hRe]
  have hRc : R.cells = 0 := by rw [hRe]
  have hRs : R.slots = 0 := by rw [hRe]
  refine lv_iload_n hx hb dX12_isByte_0 rfl (lv_at hl 1 rfl) ?_
  refine lv_aload_n hx hb dX12_isByte_1 rfl (lv_at hl 0 rfl) ?_
  refine va_get (D := G) (ci := 12) (v := .int 0) (C := RX12) (T := TX12) (N := 38) hx hb hts (mm_i inlX12) hown hK.1 hP 0 rfl rfl 6 (by decide) (mm_h hts mm_w178) (fun _ h9 => h9) rfl dX12_isByte_2 ?_
  refine lv_icmp_ge (tgt := 32) hx hb dX12_isByte_5 (by decide) (fun c1 => ?_) (fun c1 => ?_)
  · refine lv_iconst (v := 0) hx hb dX12_isByte_32 (by decide) ?_
    subst hAe
    rw [hQ]
    exact W.zret (v := 0) hx hb hr rfl (fun t ht hW => ⟨⟨0, (), rfl, rfl, by rw [ht]; exact hP, hK.warm hW, hD⟩, hS.F ht⟩) hS.2.2 dX12_isByte_33
  · have q2 := mm_ltL (h := (-1)) (mm_nle c1) mm_k0 mm_k0 (by decide)
    exact mm_no q2 (by decide)

set_option maxHeartbeats 4000000 in
set_option maxRecDepth 100000 in
theorem K98_X12_next (l : Launch) (G : va_G) (cy : Nat → ClassId) (sz : Nat) (a_0 : Nat) (k_0 : Int32) (a_1 : Nat) (a_2 : Nat) (a_3 : Nat) (a_4 : Nat) (a_5 : Nat) (k_1 : Int32) (k_2 : Int32) (k_3 : Int32) (k_4 : Int32) (a_6 : Nat) (a_7 : Nat) (a_8 : Nat) (a_9 : Nat) (a_10 : Nat) (a_11 : Nat) (a_12 : Nat) (a_13 : Nat) (a_14 : Nat) (a_15 : Nat) (a_16 : Nat) (a_17 : Nat) (a_18 : Nat) (i_0 : Int32) (i_1 : Int32) (i_2 : Int32) (i_3 : Int32) (i_4 : Int32) (i_5 : Int32) (a_19 : Nat) (i_6 : Int32) (a_20 : Nat)   : mm_CV l yX12_next (mm_ws yX12_next cX12_next 2 (none)) ({ frames := 1, cells := 0, slots := 0, locals := 23 } : Room) G cy sz [(a_0, .inr (12, [.int k_0, .ref a_1, .ref a_2, .ref a_3, .ref a_4, .ref a_5, .int 0, .int 0, .int 0, .int 0, .int 0, .long 0, .int k_1, .int k_2, .int k_3, .int k_4, .ref a_6, .ref a_7, .ref a_8, .ref a_9, .ref a_10, .ref a_11, .ref a_12, .ref a_13, .ref a_14, .ref a_15, .ref a_16, .ref a_17, .ref a_18, .int i_0, .int i_1, .int i_2, .int i_3, .int i_4, .int i_5, .ref a_19, .int i_6, .ref a_20]))] [.ref a_0] (fun u : Unit => [(a_0, .inr (12, [.int k_0, .ref a_1, .ref a_2, .ref a_3, .ref a_4, .ref a_5, .int 0, .int 0, .int 0, .int 0, .int 0, .long 0, .int k_1, .int k_2, .int k_3, .int k_4, .ref a_6, .ref a_7, .ref a_8, .ref a_9, .ref a_10, .ref a_11, .ref a_12, .ref a_13, .ref a_14, .ref a_15, .ref a_16, .ref a_17, .ref a_18, .int i_0, .int i_1, .int i_2, .int i_3, .int i_4, .int i_5, .ref a_19, .int i_6, .ref a_20]))]) (fun u : Unit => True) 0 0 := by
  refine mm_begin (lv := [(0, .ref a_0)]) (by decide) (Nat.le_of_ble_eq_true rfl) rfl ?_
  intro p e s m below meth c A ls R args Q H locs hRe hQ hAe hx hb hr hlocks hml hown hnm hts hsz hA hS hP hK hD hl
  have hRf : R.frames = 1 := by rw [hRe]
  have hRl : R.locals = 23 := by rw [hRe]
  have hRc : R.cells = 0 := by rw [hRe]
  have hRs : R.slots = 0 := by rw [hRe]
  refine lv_aload_n hx hb dX12_next_0 rfl (lv_at hl 0 rfl) ?_
  refine lv_aload_n hx hb dX12_next_1 rfl (lv_at hl 0 rfl) ?_
  refine va_get (D := G) (ci := 12) (v := .int 0) (C := RX12) (T := TX12) (N := 38) hx hb hts (mm_i inlX12) hown hK.1 hP 0 rfl rfl 7 (by decide) (mm_h hts mm_w450) (fun _ h9 => h9) rfl dX12_next_2 ?_
  refine lv_bipush (v := 32) hx hb dX12_next_5 (by decide) ?_
  refine lv_bipush (v := 32) hx hb dX12_next_7 (by decide) ?_
  refine mm_finir (va_runV (As := [.int 0, .int 32, .int 32]) (rest := []) ⟨hx, hb, hml, hown, hts⟩ (K71_X12_isByte l G cy H.size a_0 k_0 a_1 a_2 a_3 a_4 a_5 0 0 0 0 0 k_1 k_2 k_3 k_4 a_6 a_7 a_8 a_9 a_10 a_11 a_12 a_13 a_14 a_15 a_16 a_17 a_18 i_0 i_1 i_2 i_3 i_4 i_5 a_19 i_6 a_20 ) (cwV 3 hts (mm_gV mm_w463 mm_w464 mm_w465 mm_w5 mm_w466) rfl rfl rfl hd_X12_isByte ⟨by rw [hRf]; exact Nat.le_of_ble_eq_true rfl, by rw [hRl]; exact Nat.le_of_ble_eq_true rfl⟩) (mm_preV hK hP hD [0] rfl rfl 0 rfl rfl rfl) rfl rfl hl.1 rfl (lv_room (Nat.le_of_ble_eq_true rfl)) dX12_next_9 ⟨by rw [hRc]; exact Nat.le_of_ble_eq_true rfl, by rw [hRs]; exact Nat.le_of_ble_eq_true rfl⟩) hP hD hS hA [0] rfl (fun _ => rfl) ?_
  clear hP hD hS
  clear H locs
  intro v9 _u H locs hw hP hD hS
  subst hw
  refine lv_if_ne (tgt := 30) hx hb dX12_next_12 (by decide) (fun c10 => ?_) (fun c10 => ?_)
  · have q11 := mm_neL (lo := 1) (mm_ne c10) mm_k0 mm_k0 (by decide) (by decide)
    exact mm_no q11 (by decide)
  · refine lv_aload_n hx hb dX12_next_15 rfl (lv_at hl 0 rfl) ?_
    refine lv_aload_n hx hb dX12_next_16 rfl (lv_at hl 0 rfl) ?_
    refine va_get (D := G) (ci := 12) (v := .int 0) (C := RX12) (T := TX12) (N := 38) hx hb hts (mm_i inlX12) hown hK.1 hP 0 rfl rfl 7 (by decide) (mm_h hts mm_w450) (fun _ h9 => h9) rfl dX12_next_17 ?_
    refine lv_bipush (v := 10) hx hb dX12_next_20 (by decide) ?_
    refine lv_bipush (v := 10) hx hb dX12_next_22 (by decide) ?_
    refine mm_finir (va_runV (As := [.int 0, .int 10, .int 10]) (rest := []) ⟨hx, hb, hml, hown, hts⟩ (K72_X12_isByte l G cy H.size a_0 k_0 a_1 a_2 a_3 a_4 a_5 0 0 0 0 0 k_1 k_2 k_3 k_4 a_6 a_7 a_8 a_9 a_10 a_11 a_12 a_13 a_14 a_15 a_16 a_17 a_18 i_0 i_1 i_2 i_3 i_4 i_5 a_19 i_6 a_20 ) (cwV 3 hts (mm_gV mm_w463 mm_w464 mm_w465 mm_w5 mm_w466) rfl rfl rfl hd_X12_isByte ⟨by rw [hRf]; exact Nat.le_of_ble_eq_true rfl, by rw [hRl]; exact Nat.le_of_ble_eq_true rfl⟩) (mm_preV hK hP hD [0] rfl rfl 0 rfl rfl rfl) rfl rfl hl.1 rfl (lv_room (Nat.le_of_ble_eq_true rfl)) dX12_next_24 ⟨by rw [hRc]; exact Nat.le_of_ble_eq_true rfl, by rw [hRs]; exact Nat.le_of_ble_eq_true rfl⟩) hP hD hS hA [0] rfl (fun _ => rfl) ?_
    clear hP hD hS
    clear H locs
    intro v12 _u H locs hw hP hD hS
    subst hw
    refine lv_if_eq (tgt := 43) hx hb dX12_next_27 (by decide) (fun c13 => ?_) (fun c13 => ?_)
    · refine lv_aload_n hx hb dX12_next_43 rfl (lv_at hl 0 rfl) ?_
      refine lv_aload_n hx hb dX12_next_44 rfl (lv_at hl 0 rfl) ?_
      refine va_get (D := G) (ci := 12) (v := .int 0) (C := RX12) (T := TX12) (N := 38) hx hb hts (mm_i inlX12) hown hK.1 hP 0 rfl rfl 7 (by decide) (mm_h hts mm_w450) (fun _ h9 => h9) rfl dX12_next_45 ?_
      refine va_put (D := G) (ci := 12) (v := .int 0) (ty := tyX12 9) (C := RX12) (T := TX12) (N := 38) hx hb hts (mm_i inlX12) tyX12 tyX12_ok nmX12 hown hK.1 hP hD hS 0 rfl rfl 9 (by decide) (mm_h hts mm_w455) (fun _ h9 => h9) rfl (tyX12_ok 9 (by decide)) rfl rfl (Nat.le_of_ble_eq_true rfl) dX12_next_48 ?_
      clear hP hD hS
      clear H locs
      intro H locs (hP : va_P G vwCl [(a_0, .inr (12, [.int k_0, .ref a_1, .ref a_2, .ref a_3, .ref a_4, .ref a_5, .int 0, .int 0, .int 0, .int 0, .int 0, .long 0, .int k_1, .int k_2, .int k_3, .int k_4, .ref a_6, .ref a_7, .ref a_8, .ref a_9, .ref a_10, .ref a_11, .ref a_12, .ref a_13, .ref a_14, .ref a_15, .ref a_16, .ref a_17, .ref a_18, .int i_0, .int i_1, .int i_2, .int i_3, .int i_4, .int i_5, .ref a_19, .int i_6, .ref a_20]))] H) (hD : va_D A [(a_0, .inr (12, [.int k_0, .ref a_1, .ref a_2, .ref a_3, .ref a_4, .ref a_5, .int 0, .int 0, .int 0, .int 0, .int 0, .long 0, .int k_1, .int k_2, .int k_3, .int k_4, .ref a_6, .ref a_7, .ref a_8, .ref a_9, .ref a_10, .ref a_11, .ref a_12, .ref a_13, .ref a_14, .ref a_15, .ref a_16, .ref a_17, .ref a_18, .int i_0, .int i_1, .int i_2, .int i_3, .int i_4, .int i_5, .ref a_19, .int i_6, .ref a_20]))]) hS
      refine lv_aload_n hx hb dX12_next_51 rfl (lv_at hl 0 rfl) ?_
      refine lv_iconst (v := 0) hx hb dX12_next_52 (by decide) ?_
      refine va_put (D := G) (ci := 12) (v := .int 0) (ty := tyX12 10) (C := RX12) (T := TX12) (N := 38) hx hb hts (mm_i inlX12) tyX12 tyX12_ok nmX12 hown hK.1 hP hD hS 0 rfl rfl 10 (by decide) (mm_h hts mm_w456) (fun _ h9 => h9) rfl (tyX12_ok 10 (by decide)) rfl rfl (Nat.le_of_ble_eq_true rfl) dX12_next_53 ?_
      clear hP hD hS
      clear H locs
      intro H locs (hP : va_P G vwCl [(a_0, .inr (12, [.int k_0, .ref a_1, .ref a_2, .ref a_3, .ref a_4, .ref a_5, .int 0, .int 0, .int 0, .int 0, .int 0, .long 0, .int k_1, .int k_2, .int k_3, .int k_4, .ref a_6, .ref a_7, .ref a_8, .ref a_9, .ref a_10, .ref a_11, .ref a_12, .ref a_13, .ref a_14, .ref a_15, .ref a_16, .ref a_17, .ref a_18, .int i_0, .int i_1, .int i_2, .int i_3, .int i_4, .int i_5, .ref a_19, .int i_6, .ref a_20]))] H) (hD : va_D A [(a_0, .inr (12, [.int k_0, .ref a_1, .ref a_2, .ref a_3, .ref a_4, .ref a_5, .int 0, .int 0, .int 0, .int 0, .int 0, .long 0, .int k_1, .int k_2, .int k_3, .int k_4, .ref a_6, .ref a_7, .ref a_8, .ref a_9, .ref a_10, .ref a_11, .ref a_12, .ref a_13, .ref a_14, .ref a_15, .ref a_16, .ref a_17, .ref a_18, .int i_0, .int i_1, .int i_2, .int i_3, .int i_4, .int i_5, .ref a_19, .int i_6, .ref a_20]))]) hS
      refine lv_aload_n hx hb dX12_next_56 rfl (lv_at hl 0 rfl) ?_
      refine lv_lconst (v := 0) hx hb dX12_next_57 (by decide) ?_
      refine va_put (D := G) (ci := 12) (v := .long 0) (ty := tyX12 11) (C := RX12) (T := TX12) (N := 38) hx hb hts (mm_i inlX12) tyX12 tyX12_ok nmX12 hown hK.1 hP hD hS 0 rfl rfl 11 (by decide) (mm_h hts mm_w457) (fun _ h9 => h9) rfl (tyX12_ok 11 (by decide)) rfl rfl (Nat.le_of_ble_eq_true rfl) dX12_next_58 ?_
      clear hP hD hS
      clear H locs
      intro H locs (hP : va_P G vwCl [(a_0, .inr (12, [.int k_0, .ref a_1, .ref a_2, .ref a_3, .ref a_4, .ref a_5, .int 0, .int 0, .int 0, .int 0, .int 0, .long 0, .int k_1, .int k_2, .int k_3, .int k_4, .ref a_6, .ref a_7, .ref a_8, .ref a_9, .ref a_10, .ref a_11, .ref a_12, .ref a_13, .ref a_14, .ref a_15, .ref a_16, .ref a_17, .ref a_18, .int i_0, .int i_1, .int i_2, .int i_3, .int i_4, .int i_5, .ref a_19, .int i_6, .ref a_20]))] H) (hD : va_D A [(a_0, .inr (12, [.int k_0, .ref a_1, .ref a_2, .ref a_3, .ref a_4, .ref a_5, .int 0, .int 0, .int 0, .int 0, .int 0, .long 0, .int k_1, .int k_2, .int k_3, .int k_4, .ref a_6, .ref a_7, .ref a_8, .ref a_9, .ref a_10, .ref a_11, .ref a_12, .ref a_13, .ref a_14, .ref a_15, .ref a_16, .ref a_17, .ref a_18, .int i_0, .int i_1, .int i_2, .int i_3, .int i_4, .int i_5, .ref a_19, .int i_6, .ref a_20]))]) hS
      refine lv_aload_n hx hb dX12_next_61 rfl (lv_at hl 0 rfl) ?_
      refine va_get (D := G) (ci := 12) (v := .int 0) (C := RX12) (T := TX12) (N := 38) hx hb hts (mm_i inlX12) hown hK.1 hP 0 rfl rfl 7 (by decide) (mm_h hts mm_w450) (fun _ h9 => h9) rfl dX12_next_62 ?_
      refine lv_aload_n hx hb dX12_next_65 rfl (lv_at hl 0 rfl) ?_
      refine va_get (D := G) (ci := 12) (v := .int 0) (C := RX12) (T := TX12) (N := 38) hx hb hts (mm_i inlX12) hown hK.1 hP 0 rfl rfl 6 (by decide) (mm_h hts mm_w178) (fun _ h9 => h9) rfl dX12_next_66 ?_
      refine lv_icmp_ne (tgt := 80) hx hb dX12_next_69 (by decide) (fun c14 => ?_) (fun c14 => ?_)
      · have q15 := mm_neL (lo := 1) (mm_ne c14) mm_k0 mm_k0 (by decide) (by decide)
        exact mm_no q15 (by decide)
      · refine lv_aload_n hx hb dX12_next_72 rfl (lv_at hl 0 rfl) ?_
        refine lv_iconst (v := 0) hx hb dX12_next_73 (by decide) ?_
        refine va_put (D := G) (ci := 12) (v := .int 0) (ty := tyX12 8) (C := RX12) (T := TX12) (N := 38) hx hb hts (mm_i inlX12) tyX12 tyX12_ok nmX12 hown hK.1 hP hD hS 0 rfl rfl 8 (by decide) (mm_h hts mm_w432) (fun _ h9 => h9) rfl (tyX12_ok 8 (by decide)) rfl rfl (Nat.le_of_ble_eq_true rfl) dX12_next_74 ?_
        clear hP hD hS
        clear H locs
        intro H locs (hP : va_P G vwCl [(a_0, .inr (12, [.int k_0, .ref a_1, .ref a_2, .ref a_3, .ref a_4, .ref a_5, .int 0, .int 0, .int 0, .int 0, .int 0, .long 0, .int k_1, .int k_2, .int k_3, .int k_4, .ref a_6, .ref a_7, .ref a_8, .ref a_9, .ref a_10, .ref a_11, .ref a_12, .ref a_13, .ref a_14, .ref a_15, .ref a_16, .ref a_17, .ref a_18, .int i_0, .int i_1, .int i_2, .int i_3, .int i_4, .int i_5, .ref a_19, .int i_6, .ref a_20]))] H) (hD : va_D A [(a_0, .inr (12, [.int k_0, .ref a_1, .ref a_2, .ref a_3, .ref a_4, .ref a_5, .int 0, .int 0, .int 0, .int 0, .int 0, .long 0, .int k_1, .int k_2, .int k_3, .int k_4, .ref a_6, .ref a_7, .ref a_8, .ref a_9, .ref a_10, .ref a_11, .ref a_12, .ref a_13, .ref a_14, .ref a_15, .ref a_16, .ref a_17, .ref a_18, .int i_0, .int i_1, .int i_2, .int i_3, .int i_4, .int i_5, .ref a_19, .int i_6, .ref a_20]))]) hS
        refine lv_goto (tgt := 307) hx hb dX12_next_77 (by decide) ?_
        subst hAe
        rw [hQ]
        exact W.vret hx hb hr (fun t ht hW => ⟨⟨(), rfl, trivial, by rw [ht]; exact hP, hK.warm hW, hD⟩, hS.F ht⟩) hS.2.2 dX12_next_307
    · have q16 := mm_neL (lo := 1) (mm_ne c13) mm_k0 mm_k0 (by decide) (by decide)
      exact mm_no q16 (by decide)

set_option maxHeartbeats 4000000 in
set_option maxRecDepth 100000 in
theorem K99_X12_begins (l : Launch) (G : va_G) (cy : Nat → ClassId) (sz : Nat) (a_0 : Nat) (k_0 : Int32) (a_1 : Nat) (a_2 : Nat) (a_3 : Nat) (a_4 : Nat) (a_5 : Nat) (k_1 : Int32) (k_2 : Int32) (a_6 : Nat) (a_7 : Nat) (a_8 : Nat) (a_9 : Nat) (a_10 : Nat) (a_11 : Nat) (a_12 : Nat) (a_13 : Nat) (a_14 : Nat) (a_15 : Nat) (a_16 : Nat) (a_17 : Nat) (a_18 : Nat) (i_0 : Int32) (i_1 : Int32) (i_2 : Int32) (i_3 : Int32) (i_4 : Int32) (i_5 : Int32) (a_19 : Nat) (i_6 : Int32) (a_20 : Nat)   : mm_CV l yX12_begins (mm_ws yX12_begins cX12_begins 1 (none)) ({ frames := 2, cells := 0, slots := 0, locals := 44 } : Room) G cy sz [(a_0, .inr (12, [.int k_0, .ref a_1, .ref a_2, .ref a_3, .ref a_4, .ref a_5, .int 0, .int 0, .int 0, .int 0, .int 0, .long 0, .int 0, .int 0, .int k_1, .int k_2, .ref a_6, .ref a_7, .ref a_8, .ref a_9, .ref a_10, .ref a_11, .ref a_12, .ref a_13, .ref a_14, .ref a_15, .ref a_16, .ref a_17, .ref a_18, .int i_0, .int i_1, .int i_2, .int i_3, .int i_4, .int i_5, .ref a_19, .int i_6, .ref a_20]))] [.ref a_0] (fun u : Unit => [(a_0, .inr (12, [.int k_0, .ref a_1, .ref a_2, .ref a_3, .ref a_4, .ref a_5, .int 0, .int 0, .int 0, .int 0, .int 0, .long 0, .int 0, .int (-1), .int k_1, .int k_2, .ref a_6, .ref a_7, .ref a_8, .ref a_9, .ref a_10, .ref a_11, .ref a_12, .ref a_13, .ref a_14, .ref a_15, .ref a_16, .ref a_17, .ref a_18, .int i_0, .int i_1, .int i_2, .int i_3, .int i_4, .int i_5, .ref a_19, .int i_6, .ref a_20]))]) (fun u : Unit => True) 0 0 := by
  refine mm_begin (lv := [(0, .ref a_0)]) (by decide) (Nat.le_of_ble_eq_true rfl) rfl ?_
  intro p e s m below meth c A ls R args Q H locs hRe hQ hAe hx hb hr hlocks hml hown hnm hts hsz hA hS hP hK hD hl
  have hRf : R.frames = 2 := by rw [hRe]
  have hRl : R.locals = 44 := by rw [hRe]
  have hRc : R.cells = 0 := by rw [hRe]
  have hRs : R.slots = 0 := by rw [hRe]
  refine lv_aload_n hx hb dX12_begins_0 rfl (lv_at hl 0 rfl) ?_
  refine lv_iconst (v := 0) hx hb dX12_begins_1 (by decide) ?_
  refine va_put (D := G) (ci := 12) (v := .int 0) (ty := tyX12 12) (C := RX12) (T := TX12) (N := 38) hx hb hts (mm_i inlX12) tyX12 tyX12_ok nmX12 hown hK.1 hP hD hS 0 rfl rfl 12 (by decide) (mm_h hts mm_w436) (fun _ h9 => h9) rfl (tyX12_ok 12 (by decide)) rfl rfl (Nat.le_of_ble_eq_true rfl) dX12_begins_2 ?_
  clear hP hD hS
  clear H locs
  intro H locs (hP : va_P G vwCl [(a_0, .inr (12, [.int k_0, .ref a_1, .ref a_2, .ref a_3, .ref a_4, .ref a_5, .int 0, .int 0, .int 0, .int 0, .int 0, .long 0, .int 0, .int 0, .int k_1, .int k_2, .ref a_6, .ref a_7, .ref a_8, .ref a_9, .ref a_10, .ref a_11, .ref a_12, .ref a_13, .ref a_14, .ref a_15, .ref a_16, .ref a_17, .ref a_18, .int i_0, .int i_1, .int i_2, .int i_3, .int i_4, .int i_5, .ref a_19, .int i_6, .ref a_20]))] H) (hD : va_D A [(a_0, .inr (12, [.int k_0, .ref a_1, .ref a_2, .ref a_3, .ref a_4, .ref a_5, .int 0, .int 0, .int 0, .int 0, .int 0, .long 0, .int 0, .int 0, .int k_1, .int k_2, .ref a_6, .ref a_7, .ref a_8, .ref a_9, .ref a_10, .ref a_11, .ref a_12, .ref a_13, .ref a_14, .ref a_15, .ref a_16, .ref a_17, .ref a_18, .int i_0, .int i_1, .int i_2, .int i_3, .int i_4, .int i_5, .ref a_19, .int i_6, .ref a_20]))]) hS
  refine lv_aload_n hx hb dX12_begins_5 rfl (lv_at hl 0 rfl) ?_
  refine lv_iconst (v := (-1)) hx hb dX12_begins_6 (by decide) ?_
  refine va_put (D := G) (ci := 12) (v := .int (-1)) (ty := tyX12 13) (C := RX12) (T := TX12) (N := 38) hx hb hts (mm_i inlX12) tyX12 tyX12_ok nmX12 hown hK.1 hP hD hS 0 rfl rfl 13 (by decide) (mm_h hts mm_w449) (fun _ h9 => h9) rfl (tyX12_ok 13 (by decide)) rfl rfl (Nat.le_of_ble_eq_true rfl) dX12_begins_7 ?_
  clear hP hD hS
  clear H locs
  intro H locs (hP : va_P G vwCl [(a_0, .inr (12, [.int k_0, .ref a_1, .ref a_2, .ref a_3, .ref a_4, .ref a_5, .int 0, .int 0, .int 0, .int 0, .int 0, .long 0, .int 0, .int (-1), .int k_1, .int k_2, .ref a_6, .ref a_7, .ref a_8, .ref a_9, .ref a_10, .ref a_11, .ref a_12, .ref a_13, .ref a_14, .ref a_15, .ref a_16, .ref a_17, .ref a_18, .int i_0, .int i_1, .int i_2, .int i_3, .int i_4, .int i_5, .ref a_19, .int i_6, .ref a_20]))] H) (hD : va_D A [(a_0, .inr (12, [.int k_0, .ref a_1, .ref a_2, .ref a_3, .ref a_4, .ref a_5, .int 0, .int 0, .int 0, .int 0, .int 0, .long 0, .int 0, .int (-1), .int k_1, .int k_2, .ref a_6, .ref a_7, .ref a_8, .ref a_9, .ref a_10, .ref a_11, .ref a_12, .ref a_13, .ref a_14, .ref a_15, .ref a_16, .ref a_17, .ref a_18, .int i_0, .int i_1, .int i_2, .int i_3, .int i_4, .int i_5, .ref a_19, .int i_6, .ref a_20]))]) hS
  refine lv_aload_n hx hb dX12_begins_10 rfl (lv_at hl 0 rfl) ?_
  refine lv_iconst (v := 0) hx hb dX12_begins_11 (by decide) ?_
  refine va_put (D := G) (ci := 12) (v := .int 0) (ty := tyX12 7) (C := RX12) (T := TX12) (N := 38) hx hb hts (mm_i inlX12) tyX12 tyX12_ok nmX12 hown hK.1 hP hD hS 0 rfl rfl 7 (by decide) (mm_h hts mm_w450) (fun _ h9 => h9) rfl (tyX12_ok 7 (by decide)) rfl rfl (Nat.le_of_ble_eq_true rfl) dX12_begins_12 ?_
  clear hP hD hS
  clear H locs
  intro H locs (hP : va_P G vwCl [(a_0, .inr (12, [.int k_0, .ref a_1, .ref a_2, .ref a_3, .ref a_4, .ref a_5, .int 0, .int 0, .int 0, .int 0, .int 0, .long 0, .int 0, .int (-1), .int k_1, .int k_2, .ref a_6, .ref a_7, .ref a_8, .ref a_9, .ref a_10, .ref a_11, .ref a_12, .ref a_13, .ref a_14, .ref a_15, .ref a_16, .ref a_17, .ref a_18, .int i_0, .int i_1, .int i_2, .int i_3, .int i_4, .int i_5, .ref a_19, .int i_6, .ref a_20]))] H) (hD : va_D A [(a_0, .inr (12, [.int k_0, .ref a_1, .ref a_2, .ref a_3, .ref a_4, .ref a_5, .int 0, .int 0, .int 0, .int 0, .int 0, .long 0, .int 0, .int (-1), .int k_1, .int k_2, .ref a_6, .ref a_7, .ref a_8, .ref a_9, .ref a_10, .ref a_11, .ref a_12, .ref a_13, .ref a_14, .ref a_15, .ref a_16, .ref a_17, .ref a_18, .int i_0, .int i_1, .int i_2, .int i_3, .int i_4, .int i_5, .ref a_19, .int i_6, .ref a_20]))]) hS
  refine lv_aload_n hx hb dX12_begins_15 rfl (lv_at hl 0 rfl) ?_
  refine mm_finvr (va_runV (As := []) (rest := []) ⟨hx, hb, hml, hown, hts⟩ (K76_X12_next l G cy H.size a_0 k_0 a_1 a_2 a_3 a_4 a_5 0 (-1) k_1 k_2 a_6 a_7 a_8 a_9 a_10 a_11 a_12 a_13 a_14 a_15 a_16 a_17 a_18 i_0 i_1 i_2 i_3 i_4 i_5 a_19 i_6 a_20 ) (cwV 0 hts (mm_gV mm_w451 mm_w452 mm_w453 mm_w5 mm_w454) rfl rfl rfl hd_X12_next ⟨by rw [hRf]; exact Nat.le_of_ble_eq_true rfl, by rw [hRl]; exact Nat.le_of_ble_eq_true rfl⟩) (mm_preV hK hP hD [0] rfl rfl 0 rfl rfl rfl) rfl rfl hl.1 rfl (lv_room (Nat.le_of_ble_eq_true rfl)) dX12_begins_16 ⟨by rw [hRc]; exact Nat.le_of_ble_eq_true rfl, by rw [hRs]; exact Nat.le_of_ble_eq_true rfl⟩) hP hD hS hA [0] rfl (fun _ => rfl) ?_
  clear hP hD hS
  clear H locs
  intro _u H locs hw hP hD hS
  subst hAe
  rw [hQ]
  exact W.vret hx hb hr (fun t ht hW => ⟨⟨(), rfl, trivial, by rw [ht]; exact hP, hK.warm hW, hD⟩, hS.F ht⟩) hS.2.2 dX12_begins_19

set_option maxHeartbeats 4000000 in
set_option maxRecDepth 100000 in
theorem K100_X12_isGood (l : Launch) (G : va_G) (cy : Nat → ClassId) (sz : Nat) (a_0 : Nat) (k_0 : Int32) (a_1 : Nat) (a_2 : Nat) (a_3 : Nat) (a_4 : Nat) (a_5 : Nat) (k_1 : Int32) (k_2 : Int32) (k_3 : Int32) (k_4 : Int32) (k_5 : Int32) (k_6 : Int64) (k_7 : Int32) (k_8 : Int32) (k_9 : Int32) (a_6 : Nat) (a_7 : Nat) (a_8 : Nat) (a_9 : Nat) (a_10 : Nat) (a_11 : Nat) (a_12 : Nat) (a_13 : Nat) (a_14 : Nat) (a_15 : Nat) (a_16 : Nat) (a_17 : Nat) (a_18 : Nat) (i_0 : Int32) (i_1 : Int32) (i_2 : Int32) (i_3 : Int32) (i_4 : Int32) (i_5 : Int32) (a_19 : Nat) (i_6 : Int32) (a_20 : Nat)   : mm_CI l yX12_isGood (mm_ws yX12_isGood cX12_isGood 1 (some .boolean)) ({ frames := 0, cells := 0, slots := 0, locals := 0 } : Room) G cy sz [(a_0, .inr (12, [.int k_0, .ref a_1, .ref a_2, .ref a_3, .ref a_4, .ref a_5, .int k_1, .int k_2, .int k_3, .int k_4, .int k_5, .long k_6, .int 0, .int k_7, .int k_8, .int k_9, .ref a_6, .ref a_7, .ref a_8, .ref a_9, .ref a_10, .ref a_11, .ref a_12, .ref a_13, .ref a_14, .ref a_15, .ref a_16, .ref a_17, .ref a_18, .int i_0, .int i_1, .int i_2, .int i_3, .int i_4, .int i_5, .ref a_19, .int i_6, .ref a_20]))] [.ref a_0] (fun u : Unit => [(a_0, .inr (12, [.int k_0, .ref a_1, .ref a_2, .ref a_3, .ref a_4, .ref a_5, .int k_1, .int k_2, .int k_3, .int k_4, .int k_5, .long k_6, .int 0, .int k_7, .int k_8, .int k_9, .ref a_6, .ref a_7, .ref a_8, .ref a_9, .ref a_10, .ref a_11, .ref a_12, .ref a_13, .ref a_14, .ref a_15, .ref a_16, .ref a_17, .ref a_18, .int i_0, .int i_1, .int i_2, .int i_3, .int i_4, .int i_5, .ref a_19, .int i_6, .ref a_20]))]) (fun (r : Int32) (u : Unit) => 1 = r) 0 0 := by
  refine mm_begin (lv := [(0, .ref a_0)]) (by decide) (Nat.le_of_ble_eq_true rfl) rfl ?_
  intro p e s m below meth c A ls R args Q H locs hRe hQ hAe hx hb hr hlocks hml hown hnm hts hsz hA hS hP hK hD hl
  have hRf : R.frames = 0 := by rw [hRe]
  have hRl : R.locals = 0 := by rw [hRe]
  have hRc : R.cells = 0 := by rw [hRe]
  have hRs : R.slots = 0 := by rw [hRe]
  refine lv_aload_n hx hb dX12_isGood_0 rfl (lv_at hl 0 rfl) ?_
  refine va_get (D := G) (ci := 12) (v := .int 0) (C := RX12) (T := TX12) (N := 38) hx hb hts (mm_i inlX12) hown hK.1 hP 0 rfl rfl 12 (by decide) (mm_h hts mm_w436) (fun _ h9 => h9) rfl dX12_isGood_1 ?_
  refine lv_if_ne (tgt := 11) hx hb dX12_isGood_4 (by decide) (fun c1 => ?_) (fun c1 => ?_)
  · have q2 := mm_neL (lo := 1) (mm_ne c1) mm_k0 mm_k0 (by decide) (by decide)
    exact mm_no q2 (by decide)
  · refine lv_iconst (v := 1) hx hb dX12_isGood_7 (by decide) ?_
    refine lv_goto (tgt := 12) hx hb dX12_isGood_8 (by decide) ?_
    subst hAe
    rw [hQ]
    exact W.zret (v := 1) hx hb hr rfl (fun t ht hW => ⟨⟨1, (), rfl, rfl, by rw [ht]; exact hP, hK.warm hW, hD⟩, hS.F ht⟩) hS.2.2 dX12_isGood_12

set_option maxHeartbeats 4000000 in
set_option maxRecDepth 100000 in
theorem K101_X12_isOver (l : Launch) (G : va_G) (cy : Nat → ClassId) (sz : Nat) (a_0 : Nat) (k_0 : Int32) (a_1 : Nat) (a_2 : Nat) (a_3 : Nat) (a_4 : Nat) (a_5 : Nat) (k_1 : Int32) (k_2 : Int32) (k_3 : Int32) (k_4 : Int32) (k_5 : Int64) (k_6 : Int32) (a_6 : Nat) (a_7 : Nat) (a_8 : Nat) (a_9 : Nat) (a_10 : Nat) (a_11 : Nat) (a_12 : Nat) (a_13 : Nat) (a_14 : Nat) (a_15 : Nat) (a_16 : Nat) (a_17 : Nat) (a_18 : Nat) (i_0 : Int32) (i_1 : Int32) (i_2 : Int32) (i_3 : Int32) (i_4 : Int32) (i_5 : Int32) (a_19 : Nat) (i_6 : Int32) (a_20 : Nat)   : mm_CV l yX12_isOver (mm_ws yX12_isOver cX12_isOver 1 (none)) ({ frames := 0, cells := 0, slots := 0, locals := 0 } : Room) G cy sz [(a_0, .inr (12, [.int k_0, .ref a_1, .ref a_2, .ref a_3, .ref a_4, .ref a_5, .int 0, .int k_1, .int k_2, .int k_3, .int k_4, .long k_5, .int 0, .int k_6, .int 0, .int (-1), .ref a_6, .ref a_7, .ref a_8, .ref a_9, .ref a_10, .ref a_11, .ref a_12, .ref a_13, .ref a_14, .ref a_15, .ref a_16, .ref a_17, .ref a_18, .int i_0, .int i_1, .int i_2, .int i_3, .int i_4, .int i_5, .ref a_19, .int i_6, .ref a_20]))] [.ref a_0] (fun u : Unit => [(a_0, .inr (12, [.int k_0, .ref a_1, .ref a_2, .ref a_3, .ref a_4, .ref a_5, .int 0, .int k_1, .int k_2, .int k_3, .int k_4, .long k_5, .int 0, .int k_6, .int 0, .int (-1), .ref a_6, .ref a_7, .ref a_8, .ref a_9, .ref a_10, .ref a_11, .ref a_12, .ref a_13, .ref a_14, .ref a_15, .ref a_16, .ref a_17, .ref a_18, .int i_0, .int i_1, .int i_2, .int i_3, .int i_4, .int i_5, .ref a_19, .int i_6, .ref a_20]))]) (fun u : Unit => True) 0 0 := by
  refine mm_begin (lv := [(0, .ref a_0)]) (by decide) (Nat.le_of_ble_eq_true rfl) rfl ?_
  intro p e s m below meth c A ls R args Q H locs hRe hQ hAe hx hb hr hlocks hml hown hnm hts hsz hA hS hP hK hD hl
  have hRf : R.frames = 0 := by rw [hRe]
  have hRl : R.locals = 0 := by rw [hRe]
  have hRc : R.cells = 0 := by rw [hRe]
  have hRs : R.slots = 0 := by rw [hRe]
  refine lv_aload_n hx hb dX12_isOver_0 rfl (lv_at hl 0 rfl) ?_
  refine lv_iconst (v := 0) hx hb dX12_isOver_1 (by decide) ?_
  refine va_put (D := G) (ci := 12) (v := .int 0) (ty := tyX12 6) (C := RX12) (T := TX12) (N := 38) hx hb hts (mm_i inlX12) tyX12 tyX12_ok nmX12 hown hK.1 hP hD hS 0 rfl rfl 6 (by decide) (mm_h hts mm_w178) (fun _ h9 => h9) rfl (tyX12_ok 6 (by decide)) rfl rfl (Nat.le_of_ble_eq_true rfl) dX12_isOver_2 ?_
  clear hP hD hS
  clear H locs
  intro H locs (hP : va_P G vwCl [(a_0, .inr (12, [.int k_0, .ref a_1, .ref a_2, .ref a_3, .ref a_4, .ref a_5, .int 0, .int k_1, .int k_2, .int k_3, .int k_4, .long k_5, .int 0, .int k_6, .int 0, .int (-1), .ref a_6, .ref a_7, .ref a_8, .ref a_9, .ref a_10, .ref a_11, .ref a_12, .ref a_13, .ref a_14, .ref a_15, .ref a_16, .ref a_17, .ref a_18, .int i_0, .int i_1, .int i_2, .int i_3, .int i_4, .int i_5, .ref a_19, .int i_6, .ref a_20]))] H) (hD : va_D A [(a_0, .inr (12, [.int k_0, .ref a_1, .ref a_2, .ref a_3, .ref a_4, .ref a_5, .int 0, .int k_1, .int k_2, .int k_3, .int k_4, .long k_5, .int 0, .int k_6, .int 0, .int (-1), .ref a_6, .ref a_7, .ref a_8, .ref a_9, .ref a_10, .ref a_11, .ref a_12, .ref a_13, .ref a_14, .ref a_15, .ref a_16, .ref a_17, .ref a_18, .int i_0, .int i_1, .int i_2, .int i_3, .int i_4, .int i_5, .ref a_19, .int i_6, .ref a_20]))]) hS
  refine lv_aload_n hx hb dX12_isOver_5 rfl (lv_at hl 0 rfl) ?_
  refine lv_aload_n hx hb dX12_isOver_6 rfl (lv_at hl 0 rfl) ?_
  refine va_get (D := G) (ci := 12) (v := .int 0) (C := RX12) (T := TX12) (N := 38) hx hb hts (mm_i inlX12) hown hK.1 hP 0 rfl rfl 12 (by decide) (mm_h hts mm_w436) (fun _ h9 => h9) rfl dX12_isOver_7 ?_
  refine va_put (D := G) (ci := 12) (v := .int 0) (ty := tyX12 14) (C := RX12) (T := TX12) (N := 38) hx hb hts (mm_i inlX12) tyX12 tyX12_ok nmX12 hown hK.1 hP hD hS 0 rfl rfl 14 (by decide) (mm_h hts mm_w552) (fun _ h9 => h9) rfl (tyX12_ok 14 (by decide)) rfl rfl (Nat.le_of_ble_eq_true rfl) dX12_isOver_10 ?_
  clear hP hD hS
  clear H locs
  intro H locs (hP : va_P G vwCl [(a_0, .inr (12, [.int k_0, .ref a_1, .ref a_2, .ref a_3, .ref a_4, .ref a_5, .int 0, .int k_1, .int k_2, .int k_3, .int k_4, .long k_5, .int 0, .int k_6, .int 0, .int (-1), .ref a_6, .ref a_7, .ref a_8, .ref a_9, .ref a_10, .ref a_11, .ref a_12, .ref a_13, .ref a_14, .ref a_15, .ref a_16, .ref a_17, .ref a_18, .int i_0, .int i_1, .int i_2, .int i_3, .int i_4, .int i_5, .ref a_19, .int i_6, .ref a_20]))] H) (hD : va_D A [(a_0, .inr (12, [.int k_0, .ref a_1, .ref a_2, .ref a_3, .ref a_4, .ref a_5, .int 0, .int k_1, .int k_2, .int k_3, .int k_4, .long k_5, .int 0, .int k_6, .int 0, .int (-1), .ref a_6, .ref a_7, .ref a_8, .ref a_9, .ref a_10, .ref a_11, .ref a_12, .ref a_13, .ref a_14, .ref a_15, .ref a_16, .ref a_17, .ref a_18, .int i_0, .int i_1, .int i_2, .int i_3, .int i_4, .int i_5, .ref a_19, .int i_6, .ref a_20]))]) hS
  refine lv_aload_n hx hb dX12_isOver_13 rfl (lv_at hl 0 rfl) ?_
  refine lv_aload_n hx hb dX12_isOver_14 rfl (lv_at hl 0 rfl) ?_
  refine va_get (D := G) (ci := 12) (v := .int 0) (C := RX12) (T := TX12) (N := 38) hx hb hts (mm_i inlX12) hown hK.1 hP 0 rfl rfl 12 (by decide) (mm_h hts mm_w436) (fun _ h9 => h9) rfl dX12_isOver_15 ?_
  refine lv_if_ne (tgt := 25) hx hb dX12_isOver_18 (by decide) (fun c1 => ?_) (fun c1 => ?_)
  · have q2 := mm_neL (lo := 1) (mm_ne c1) mm_k0 mm_k0 (by decide) (by decide)
    exact mm_no q2 (by decide)
  · refine lv_iconst (v := (-1)) hx hb dX12_isOver_21 (by decide) ?_
    refine lv_goto (tgt := 29) hx hb dX12_isOver_22 (by decide) ?_
    refine va_put (D := G) (ci := 12) (v := .int (-1)) (ty := tyX12 15) (C := RX12) (T := TX12) (N := 38) hx hb hts (mm_i inlX12) tyX12 tyX12_ok nmX12 hown hK.1 hP hD hS 0 rfl rfl 15 (by decide) (mm_h hts mm_w147) (fun _ h9 => h9) rfl (tyX12_ok 15 (by decide)) rfl rfl (Nat.le_of_ble_eq_true rfl) dX12_isOver_29 ?_
    clear hP hD hS
    clear H locs
    intro H locs (hP : va_P G vwCl [(a_0, .inr (12, [.int k_0, .ref a_1, .ref a_2, .ref a_3, .ref a_4, .ref a_5, .int 0, .int k_1, .int k_2, .int k_3, .int k_4, .long k_5, .int 0, .int k_6, .int 0, .int (-1), .ref a_6, .ref a_7, .ref a_8, .ref a_9, .ref a_10, .ref a_11, .ref a_12, .ref a_13, .ref a_14, .ref a_15, .ref a_16, .ref a_17, .ref a_18, .int i_0, .int i_1, .int i_2, .int i_3, .int i_4, .int i_5, .ref a_19, .int i_6, .ref a_20]))] H) (hD : va_D A [(a_0, .inr (12, [.int k_0, .ref a_1, .ref a_2, .ref a_3, .ref a_4, .ref a_5, .int 0, .int k_1, .int k_2, .int k_3, .int k_4, .long k_5, .int 0, .int k_6, .int 0, .int (-1), .ref a_6, .ref a_7, .ref a_8, .ref a_9, .ref a_10, .ref a_11, .ref a_12, .ref a_13, .ref a_14, .ref a_15, .ref a_16, .ref a_17, .ref a_18, .int i_0, .int i_1, .int i_2, .int i_3, .int i_4, .int i_5, .ref a_19, .int i_6, .ref a_20]))]) hS
    subst hAe
    rw [hQ]
    exact W.vret hx hb hr (fun t ht hW => ⟨⟨(), rfl, trivial, by rw [ht]; exact hP, hK.warm hW, hD⟩, hS.F ht⟩) hS.2.2 dX12_isOver_32

set_option maxHeartbeats 4000000 in
set_option maxRecDepth 100000 in
theorem K102_X12_copyBook (l : Launch) (G : va_G) (cy : Nat → ClassId) (sz : Nat) (a_0 : Nat) (k_0 : Int32) (a_1 : Nat) (a_2 : Nat) (a_3 : Nat) (a_4 : Nat) (a_5 : Nat) (k_1 : Int32) (k_2 : Int32) (k_3 : Int32) (k_4 : Int32) (k_5 : Int32) (k_6 : Int64) (k_7 : Int32) (k_8 : Int32) (k_9 : Int32) (k_10 : Int32) (a_6 : Nat) (a_7 : Nat) (a_8 : Nat) (a_9 : Nat) (a_10 : Nat) (a_11 : Nat) (a_12 : Nat) (a_13 : Nat) (a_14 : Nat) (a_15 : Nat) (a_16 : Nat) (a_17 : Nat) (a_18 : Nat) (i_0 : Int32) (i_1 : Int32) (i_2 : Int32) (i_3 : Int32) (i_4 : Int32) (i_5 : Int32) (a_19 : Nat) (i_6 : Int32) (a_20 : Nat) (f_0 : Nat → Int32) (f_1 : Nat → Int32) (f_2 : Nat → Int32) (h0 : mm_ar f_0 0 0) (h1 : mm_ar f_1 0 0) (h2 : mm_ar f_2 0 0)  : mm_CV l yX12_copyBook (mm_ws yX12_copyBook cX12_copyBook 3 (none)) ({ frames := 1, cells := 0, slots := 0, locals := 24 } : Room) G cy sz [(a_0, .inr (12, [.int k_0, .ref a_1, .ref a_2, .ref a_3, .ref a_4, .ref a_5, .int k_1, .int k_2, .int k_3, .int k_4, .int k_5, .long k_6, .int k_7, .int k_8, .int k_9, .int k_10, .ref a_6, .ref a_7, .ref a_8, .ref a_9, .ref a_10, .ref a_11, .ref a_12, .ref a_13, .ref a_14, .ref a_15, .ref a_16, .ref a_17, .ref a_18, .int i_0, .int i_1, .int i_2, .int i_3, .int i_4, .int i_5, .ref a_19, .int i_6, .ref a_20])), (a_6, .inl (cy 1, 5, .inl f_0)), (a_7, .inl (cy 1, 30, .inl f_1)), (a_8, .inl (cy 1, 90, .inl (fun _ => 0))), (a_9, .inl (cy 1, 15, .inl f_2)), (a_10, .inl (cy 1, 1050, .inl (fun _ => 0))), (a_11, .inl (cy 1, 30, .inl (fun _ => 0))), (a_12, .inl (cy 1, 240, .inl (fun _ => 0))), (a_13, .inl (cy 1, 450, .inl (fun _ => 0)))] [.ref a_0, .int 4, .int 0] (fun u : (Nat → Int32) × (Nat → Int32) × (Nat → Int32) × (Nat → Int32) × (Nat → Int32) × (Nat → Int32) × (Nat → Int32) × (Nat → Int32) => [(a_0, .inr (12, [.int k_0, .ref a_1, .ref a_2, .ref a_3, .ref a_4, .ref a_5, .int k_1, .int k_2, .int k_3, .int k_4, .int k_5, .long k_6, .int k_7, .int k_8, .int k_9, .int k_10, .ref a_6, .ref a_7, .ref a_8, .ref a_9, .ref a_10, .ref a_11, .ref a_12, .ref a_13, .ref a_14, .ref a_15, .ref a_16, .ref a_17, .ref a_18, .int i_0, .int i_1, .int i_2, .int i_3, .int i_4, .int i_5, .ref a_19, .int i_6, .ref a_20])), (a_6, .inl (cy 1, 5, .inl u.1)), (a_7, .inl (cy 1, 30, .inl u.2.1)), (a_8, .inl (cy 1, 90, .inl u.2.2.1)), (a_9, .inl (cy 1, 15, .inl u.2.2.2.1)), (a_10, .inl (cy 1, 1050, .inl u.2.2.2.2.1)), (a_11, .inl (cy 1, 30, .inl u.2.2.2.2.2.1)), (a_12, .inl (cy 1, 240, .inl u.2.2.2.2.2.2.1)), (a_13, .inl (cy 1, 450, .inl u.2.2.2.2.2.2.2))]) (fun u : (Nat → Int32) × (Nat → Int32) × (Nat → Int32) × (Nat → Int32) × (Nat → Int32) × (Nat → Int32) × (Nat → Int32) × (Nat → Int32) => mm_ar u.1 0 0 ∧ mm_ar u.2.1 0 0 ∧ mm_ar u.2.2.1 0 0 ∧ mm_ar u.2.2.2.1 0 0 ∧ mm_ar u.2.2.2.2.1 0 0 ∧ mm_ar u.2.2.2.2.2.1 0 0 ∧ mm_ar u.2.2.2.2.2.2.1 0 0 ∧ mm_ar u.2.2.2.2.2.2.2 0 0) 0 0 := by
  refine mm_begin (lv := [(0, .ref a_0), (1, .int 4), (2, .int 0)]) (by decide) (Nat.le_of_ble_eq_true rfl) rfl ?_
  intro p e s m below meth c A ls R args Q H locs hRe hQ hAe hx hb hr hlocks hml hown hnm hts hsz hA hS hP hK hD hl
  have hRf : R.frames = 1 := by rw [hRe]
  have hRl : R.locals = 24 := by rw [hRe]
  have hRc : R.cells = 0 := by rw [hRe]
  have hRs : R.slots = 0 := by rw [hRe]
  refine lv_aload_n hx hb dX12_copyBook_0 rfl (lv_at hl 0 rfl) ?_
  refine va_get (D := G) (ci := 12) (v := .ref a_6) (C := RX12) (T := TX12) (N := 38) hx hb hts (mm_i inlX12) hown hK.1 hP 0 rfl rfl 16 (by decide) (mm_h hts mm_w148) (fun _ h9 => h9) rfl dX12_copyBook_1 ?_
  refine lv_iconst (v := 1) hx hb dX12_copyBook_4 (by decide) ?_
  refine lv_iload_n hx hb dX12_copyBook_5 rfl (lv_at hl 1 rfl) ?_
  refine lv_iload_n hx hb dX12_copyBook_6 rfl (lv_at hl 2 rfl) ?_
  refine mm_finv (va_runS (As := [.ref a_6, .int 1, .int 4, .int 0]) (rest := []) ⟨hx, hb, hml, hown, hts⟩ (K79_X12_copyRow l G cy H.size a_6 f_0 h0) (va_cwS 4 hts (mm_gS mm_w557 mm_w558 mm_w5 mm_w559) rfl rfl rfl hs_X12_copyRow ⟨by rw [hRf]; exact Nat.le_of_ble_eq_true rfl, by rw [hRl]; exact Nat.le_of_ble_eq_true rfl⟩) (mm_preS hK hP hD [1] rfl rfl) rfl rfl hl.1 rfl (lv_room (Nat.le_of_ble_eq_true rfl)) dX12_copyBook_7 ⟨by rw [hRc]; exact Nat.le_of_ble_eq_true rfl, by rw [hRs]; exact Nat.le_of_ble_eq_true rfl⟩) hP hD hS hA (fun u : (Nat → Int32) => [(a_0, .inr (12, [.int k_0, .ref a_1, .ref a_2, .ref a_3, .ref a_4, .ref a_5, .int k_1, .int k_2, .int k_3, .int k_4, .int k_5, .long k_6, .int k_7, .int k_8, .int k_9, .int k_10, .ref a_6, .ref a_7, .ref a_8, .ref a_9, .ref a_10, .ref a_11, .ref a_12, .ref a_13, .ref a_14, .ref a_15, .ref a_16, .ref a_17, .ref a_18, .int i_0, .int i_1, .int i_2, .int i_3, .int i_4, .int i_5, .ref a_19, .int i_6, .ref a_20])), (a_6, .inl (cy 1, 5, .inl u)), (a_7, .inl (cy 1, 30, .inl f_1)), (a_8, .inl (cy 1, 90, .inl (fun _ => 0))), (a_9, .inl (cy 1, 15, .inl f_2)), (a_10, .inl (cy 1, 1050, .inl (fun _ => 0))), (a_11, .inl (cy 1, 30, .inl (fun _ => 0))), (a_12, .inl (cy 1, 240, .inl (fun _ => 0))), (a_13, .inl (cy 1, 450, .inl (fun _ => 0)))]) [1] [0, 2, 3, 4, 5, 6, 7, 8] (n := 9) (fun _ => rfl) (by decide +kernel) (by decide +kernel) rfl (fun _ => rfl) (wr := [(a_0, .inr (12, [.int k_0, .ref a_1, .ref a_2, .ref a_3, .ref a_4, .ref a_5, .int k_1, .int k_2, .int k_3, .int k_4, .int k_5, .long k_6, .int k_7, .int k_8, .int k_9, .int k_10, .ref a_6, .ref a_7, .ref a_8, .ref a_9, .ref a_10, .ref a_11, .ref a_12, .ref a_13, .ref a_14, .ref a_15, .ref a_16, .ref a_17, .ref a_18, .int i_0, .int i_1, .int i_2, .int i_3, .int i_4, .int i_5, .ref a_19, .int i_6, .ref a_20])), (a_7, .inl (cy 1, 30, .inl f_1)), (a_8, .inl (cy 1, 90, .inl (fun _ => 0))), (a_9, .inl (cy 1, 15, .inl f_2)), (a_10, .inl (cy 1, 1050, .inl (fun _ => 0))), (a_11, .inl (cy 1, 30, .inl (fun _ => 0))), (a_12, .inl (cy 1, 240, .inl (fun _ => 0))), (a_13, .inl (cy 1, 450, .inl (fun _ => 0)))]) rfl (fun _ => rfl) (fun _ => rfl) ?_
  clear hP hD hS
  clear H locs
  intro n1 H locs hw (hP : va_P G vwCl [(a_0, .inr (12, [.int k_0, .ref a_1, .ref a_2, .ref a_3, .ref a_4, .ref a_5, .int k_1, .int k_2, .int k_3, .int k_4, .int k_5, .long k_6, .int k_7, .int k_8, .int k_9, .int k_10, .ref a_6, .ref a_7, .ref a_8, .ref a_9, .ref a_10, .ref a_11, .ref a_12, .ref a_13, .ref a_14, .ref a_15, .ref a_16, .ref a_17, .ref a_18, .int i_0, .int i_1, .int i_2, .int i_3, .int i_4, .int i_5, .ref a_19, .int i_6, .ref a_20])), (a_6, .inl (cy 1, 5, .inl n1)), (a_7, .inl (cy 1, 30, .inl f_1)), (a_8, .inl (cy 1, 90, .inl (fun _ => 0))), (a_9, .inl (cy 1, 15, .inl f_2)), (a_10, .inl (cy 1, 1050, .inl (fun _ => 0))), (a_11, .inl (cy 1, 30, .inl (fun _ => 0))), (a_12, .inl (cy 1, 240, .inl (fun _ => 0))), (a_13, .inl (cy 1, 450, .inl (fun _ => 0)))] H) (hD : va_D A [(a_0, .inr (12, [.int k_0, .ref a_1, .ref a_2, .ref a_3, .ref a_4, .ref a_5, .int k_1, .int k_2, .int k_3, .int k_4, .int k_5, .long k_6, .int k_7, .int k_8, .int k_9, .int k_10, .ref a_6, .ref a_7, .ref a_8, .ref a_9, .ref a_10, .ref a_11, .ref a_12, .ref a_13, .ref a_14, .ref a_15, .ref a_16, .ref a_17, .ref a_18, .int i_0, .int i_1, .int i_2, .int i_3, .int i_4, .int i_5, .ref a_19, .int i_6, .ref a_20])), (a_6, .inl (cy 1, 5, .inl n1)), (a_7, .inl (cy 1, 30, .inl f_1)), (a_8, .inl (cy 1, 90, .inl (fun _ => 0))), (a_9, .inl (cy 1, 15, .inl f_2)), (a_10, .inl (cy 1, 1050, .inl (fun _ => 0))), (a_11, .inl (cy 1, 30, .inl (fun _ => 0))), (a_12, .inl (cy 1, 240, .inl (fun _ => 0))), (a_13, .inl (cy 1, 450, .inl (fun _ => 0)))]) hS
  have w2 := hw
  refine lv_aload_n hx hb dX12_copyBook_10 rfl (lv_at hl 0 rfl) ?_
  refine va_get (D := G) (ci := 12) (v := .ref a_7) (C := RX12) (T := TX12) (N := 38) hx hb hts (mm_i inlX12) hown hK.1 hP 0 rfl rfl 17 (by decide) (mm_h hts mm_w149) (fun _ h9 => h9) rfl dX12_copyBook_11 ?_
  refine lv_bipush (v := 6) hx hb dX12_copyBook_14 (by decide) ?_
  refine lv_iload_n hx hb dX12_copyBook_16 rfl (lv_at hl 1 rfl) ?_
  refine lv_iload_n hx hb dX12_copyBook_17 rfl (lv_at hl 2 rfl) ?_
  refine mm_finv (va_runS (As := [.ref a_7, .int 6, .int 4, .int 0]) (rest := []) ⟨hx, hb, hml, hown, hts⟩ (K80_X12_copyRow l G cy H.size a_7 f_1 h1) (va_cwS 4 hts (mm_gS mm_w557 mm_w558 mm_w5 mm_w559) rfl rfl rfl hs_X12_copyRow ⟨by rw [hRf]; exact Nat.le_of_ble_eq_true rfl, by rw [hRl]; exact Nat.le_of_ble_eq_true rfl⟩) (mm_preS hK hP hD [2] rfl rfl) rfl rfl hl.1 rfl (lv_room (Nat.le_of_ble_eq_true rfl)) dX12_copyBook_18 ⟨by rw [hRc]; exact Nat.le_of_ble_eq_true rfl, by rw [hRs]; exact Nat.le_of_ble_eq_true rfl⟩) hP hD hS hA (fun u : (Nat → Int32) => [(a_0, .inr (12, [.int k_0, .ref a_1, .ref a_2, .ref a_3, .ref a_4, .ref a_5, .int k_1, .int k_2, .int k_3, .int k_4, .int k_5, .long k_6, .int k_7, .int k_8, .int k_9, .int k_10, .ref a_6, .ref a_7, .ref a_8, .ref a_9, .ref a_10, .ref a_11, .ref a_12, .ref a_13, .ref a_14, .ref a_15, .ref a_16, .ref a_17, .ref a_18, .int i_0, .int i_1, .int i_2, .int i_3, .int i_4, .int i_5, .ref a_19, .int i_6, .ref a_20])), (a_6, .inl (cy 1, 5, .inl n1)), (a_7, .inl (cy 1, 30, .inl u)), (a_8, .inl (cy 1, 90, .inl (fun _ => 0))), (a_9, .inl (cy 1, 15, .inl f_2)), (a_10, .inl (cy 1, 1050, .inl (fun _ => 0))), (a_11, .inl (cy 1, 30, .inl (fun _ => 0))), (a_12, .inl (cy 1, 240, .inl (fun _ => 0))), (a_13, .inl (cy 1, 450, .inl (fun _ => 0)))]) [2] [0, 1, 3, 4, 5, 6, 7, 8] (n := 9) (fun _ => rfl) (by decide +kernel) (by decide +kernel) rfl (fun _ => rfl) (wr := [(a_0, .inr (12, [.int k_0, .ref a_1, .ref a_2, .ref a_3, .ref a_4, .ref a_5, .int k_1, .int k_2, .int k_3, .int k_4, .int k_5, .long k_6, .int k_7, .int k_8, .int k_9, .int k_10, .ref a_6, .ref a_7, .ref a_8, .ref a_9, .ref a_10, .ref a_11, .ref a_12, .ref a_13, .ref a_14, .ref a_15, .ref a_16, .ref a_17, .ref a_18, .int i_0, .int i_1, .int i_2, .int i_3, .int i_4, .int i_5, .ref a_19, .int i_6, .ref a_20])), (a_6, .inl (cy 1, 5, .inl n1)), (a_8, .inl (cy 1, 90, .inl (fun _ => 0))), (a_9, .inl (cy 1, 15, .inl f_2)), (a_10, .inl (cy 1, 1050, .inl (fun _ => 0))), (a_11, .inl (cy 1, 30, .inl (fun _ => 0))), (a_12, .inl (cy 1, 240, .inl (fun _ => 0))), (a_13, .inl (cy 1, 450, .inl (fun _ => 0)))]) rfl (fun _ => rfl) (fun _ => rfl) ?_
  clear hP hD hS
  clear H locs
  intro n3 H locs hw (hP : va_P G vwCl [(a_0, .inr (12, [.int k_0, .ref a_1, .ref a_2, .ref a_3, .ref a_4, .ref a_5, .int k_1, .int k_2, .int k_3, .int k_4, .int k_5, .long k_6, .int k_7, .int k_8, .int k_9, .int k_10, .ref a_6, .ref a_7, .ref a_8, .ref a_9, .ref a_10, .ref a_11, .ref a_12, .ref a_13, .ref a_14, .ref a_15, .ref a_16, .ref a_17, .ref a_18, .int i_0, .int i_1, .int i_2, .int i_3, .int i_4, .int i_5, .ref a_19, .int i_6, .ref a_20])), (a_6, .inl (cy 1, 5, .inl n1)), (a_7, .inl (cy 1, 30, .inl n3)), (a_8, .inl (cy 1, 90, .inl (fun _ => 0))), (a_9, .inl (cy 1, 15, .inl f_2)), (a_10, .inl (cy 1, 1050, .inl (fun _ => 0))), (a_11, .inl (cy 1, 30, .inl (fun _ => 0))), (a_12, .inl (cy 1, 240, .inl (fun _ => 0))), (a_13, .inl (cy 1, 450, .inl (fun _ => 0)))] H) (hD : va_D A [(a_0, .inr (12, [.int k_0, .ref a_1, .ref a_2, .ref a_3, .ref a_4, .ref a_5, .int k_1, .int k_2, .int k_3, .int k_4, .int k_5, .long k_6, .int k_7, .int k_8, .int k_9, .int k_10, .ref a_6, .ref a_7, .ref a_8, .ref a_9, .ref a_10, .ref a_11, .ref a_12, .ref a_13, .ref a_14, .ref a_15, .ref a_16, .ref a_17, .ref a_18, .int i_0, .int i_1, .int i_2, .int i_3, .int i_4, .int i_5, .ref a_19, .int i_6, .ref a_20])), (a_6, .inl (cy 1, 5, .inl n1)), (a_7, .inl (cy 1, 30, .inl n3)), (a_8, .inl (cy 1, 90, .inl (fun _ => 0))), (a_9, .inl (cy 1, 15, .inl f_2)), (a_10, .inl (cy 1, 1050, .inl (fun _ => 0))), (a_11, .inl (cy 1, 30, .inl (fun _ => 0))), (a_12, .inl (cy 1, 240, .inl (fun _ => 0))), (a_13, .inl (cy 1, 450, .inl (fun _ => 0)))]) hS
  have w4 := hw
  refine lv_aload_n hx hb dX12_copyBook_21 rfl (lv_at hl 0 rfl) ?_
  refine va_get (D := G) (ci := 12) (v := .ref a_8) (C := RX12) (T := TX12) (N := 38) hx hb hts (mm_i inlX12) hown hK.1 hP 0 rfl rfl 18 (by decide) (mm_h hts mm_w150) (fun _ h9 => h9) rfl dX12_copyBook_22 ?_
  refine lv_bipush (v := 18) hx hb dX12_copyBook_25 (by decide) ?_
  refine lv_iload_n hx hb dX12_copyBook_27 rfl (lv_at hl 1 rfl) ?_
  refine lv_iload_n hx hb dX12_copyBook_28 rfl (lv_at hl 2 rfl) ?_
  refine mm_finv (va_runS (As := [.ref a_8, .int 18, .int 4, .int 0]) (rest := []) ⟨hx, hb, hml, hown, hts⟩ (K81_X12_copyRow l G cy H.size a_8 ) (va_cwS 4 hts (mm_gS mm_w557 mm_w558 mm_w5 mm_w559) rfl rfl rfl hs_X12_copyRow ⟨by rw [hRf]; exact Nat.le_of_ble_eq_true rfl, by rw [hRl]; exact Nat.le_of_ble_eq_true rfl⟩) (mm_preS hK hP hD [3] rfl rfl) rfl rfl hl.1 rfl (lv_room (Nat.le_of_ble_eq_true rfl)) dX12_copyBook_29 ⟨by rw [hRc]; exact Nat.le_of_ble_eq_true rfl, by rw [hRs]; exact Nat.le_of_ble_eq_true rfl⟩) hP hD hS hA (fun u : (Nat → Int32) => [(a_0, .inr (12, [.int k_0, .ref a_1, .ref a_2, .ref a_3, .ref a_4, .ref a_5, .int k_1, .int k_2, .int k_3, .int k_4, .int k_5, .long k_6, .int k_7, .int k_8, .int k_9, .int k_10, .ref a_6, .ref a_7, .ref a_8, .ref a_9, .ref a_10, .ref a_11, .ref a_12, .ref a_13, .ref a_14, .ref a_15, .ref a_16, .ref a_17, .ref a_18, .int i_0, .int i_1, .int i_2, .int i_3, .int i_4, .int i_5, .ref a_19, .int i_6, .ref a_20])), (a_6, .inl (cy 1, 5, .inl n1)), (a_7, .inl (cy 1, 30, .inl n3)), (a_8, .inl (cy 1, 90, .inl u)), (a_9, .inl (cy 1, 15, .inl f_2)), (a_10, .inl (cy 1, 1050, .inl (fun _ => 0))), (a_11, .inl (cy 1, 30, .inl (fun _ => 0))), (a_12, .inl (cy 1, 240, .inl (fun _ => 0))), (a_13, .inl (cy 1, 450, .inl (fun _ => 0)))]) [3] [0, 1, 2, 4, 5, 6, 7, 8] (n := 9) (fun _ => rfl) (by decide +kernel) (by decide +kernel) rfl (fun _ => rfl) (wr := [(a_0, .inr (12, [.int k_0, .ref a_1, .ref a_2, .ref a_3, .ref a_4, .ref a_5, .int k_1, .int k_2, .int k_3, .int k_4, .int k_5, .long k_6, .int k_7, .int k_8, .int k_9, .int k_10, .ref a_6, .ref a_7, .ref a_8, .ref a_9, .ref a_10, .ref a_11, .ref a_12, .ref a_13, .ref a_14, .ref a_15, .ref a_16, .ref a_17, .ref a_18, .int i_0, .int i_1, .int i_2, .int i_3, .int i_4, .int i_5, .ref a_19, .int i_6, .ref a_20])), (a_6, .inl (cy 1, 5, .inl n1)), (a_7, .inl (cy 1, 30, .inl n3)), (a_9, .inl (cy 1, 15, .inl f_2)), (a_10, .inl (cy 1, 1050, .inl (fun _ => 0))), (a_11, .inl (cy 1, 30, .inl (fun _ => 0))), (a_12, .inl (cy 1, 240, .inl (fun _ => 0))), (a_13, .inl (cy 1, 450, .inl (fun _ => 0)))]) rfl (fun _ => rfl) (fun _ => rfl) ?_
  clear hP hD hS
  clear H locs
  intro n5 H locs hw (hP : va_P G vwCl [(a_0, .inr (12, [.int k_0, .ref a_1, .ref a_2, .ref a_3, .ref a_4, .ref a_5, .int k_1, .int k_2, .int k_3, .int k_4, .int k_5, .long k_6, .int k_7, .int k_8, .int k_9, .int k_10, .ref a_6, .ref a_7, .ref a_8, .ref a_9, .ref a_10, .ref a_11, .ref a_12, .ref a_13, .ref a_14, .ref a_15, .ref a_16, .ref a_17, .ref a_18, .int i_0, .int i_1, .int i_2, .int i_3, .int i_4, .int i_5, .ref a_19, .int i_6, .ref a_20])), (a_6, .inl (cy 1, 5, .inl n1)), (a_7, .inl (cy 1, 30, .inl n3)), (a_8, .inl (cy 1, 90, .inl n5)), (a_9, .inl (cy 1, 15, .inl f_2)), (a_10, .inl (cy 1, 1050, .inl (fun _ => 0))), (a_11, .inl (cy 1, 30, .inl (fun _ => 0))), (a_12, .inl (cy 1, 240, .inl (fun _ => 0))), (a_13, .inl (cy 1, 450, .inl (fun _ => 0)))] H) (hD : va_D A [(a_0, .inr (12, [.int k_0, .ref a_1, .ref a_2, .ref a_3, .ref a_4, .ref a_5, .int k_1, .int k_2, .int k_3, .int k_4, .int k_5, .long k_6, .int k_7, .int k_8, .int k_9, .int k_10, .ref a_6, .ref a_7, .ref a_8, .ref a_9, .ref a_10, .ref a_11, .ref a_12, .ref a_13, .ref a_14, .ref a_15, .ref a_16, .ref a_17, .ref a_18, .int i_0, .int i_1, .int i_2, .int i_3, .int i_4, .int i_5, .ref a_19, .int i_6, .ref a_20])), (a_6, .inl (cy 1, 5, .inl n1)), (a_7, .inl (cy 1, 30, .inl n3)), (a_8, .inl (cy 1, 90, .inl n5)), (a_9, .inl (cy 1, 15, .inl f_2)), (a_10, .inl (cy 1, 1050, .inl (fun _ => 0))), (a_11, .inl (cy 1, 30, .inl (fun _ => 0))), (a_12, .inl (cy 1, 240, .inl (fun _ => 0))), (a_13, .inl (cy 1, 450, .inl (fun _ => 0)))]) hS
  have w6 := hw
  refine lv_aload_n hx hb dX12_copyBook_32 rfl (lv_at hl 0 rfl) ?_
  refine va_get (D := G) (ci := 12) (v := .ref a_9) (C := RX12) (T := TX12) (N := 38) hx hb hts (mm_i inlX12) hown hK.1 hP 0 rfl rfl 19 (by decide) (mm_h hts mm_w151) (fun _ h9 => h9) rfl dX12_copyBook_33 ?_
  refine lv_iconst (v := 3) hx hb dX12_copyBook_36 (by decide) ?_
  refine lv_iload_n hx hb dX12_copyBook_37 rfl (lv_at hl 1 rfl) ?_
  refine lv_iload_n hx hb dX12_copyBook_38 rfl (lv_at hl 2 rfl) ?_
  refine mm_finv (va_runS (As := [.ref a_9, .int 3, .int 4, .int 0]) (rest := []) ⟨hx, hb, hml, hown, hts⟩ (K82_X12_copyRow l G cy H.size a_9 f_2 h2) (va_cwS 4 hts (mm_gS mm_w557 mm_w558 mm_w5 mm_w559) rfl rfl rfl hs_X12_copyRow ⟨by rw [hRf]; exact Nat.le_of_ble_eq_true rfl, by rw [hRl]; exact Nat.le_of_ble_eq_true rfl⟩) (mm_preS hK hP hD [4] rfl rfl) rfl rfl hl.1 rfl (lv_room (Nat.le_of_ble_eq_true rfl)) dX12_copyBook_39 ⟨by rw [hRc]; exact Nat.le_of_ble_eq_true rfl, by rw [hRs]; exact Nat.le_of_ble_eq_true rfl⟩) hP hD hS hA (fun u : (Nat → Int32) => [(a_0, .inr (12, [.int k_0, .ref a_1, .ref a_2, .ref a_3, .ref a_4, .ref a_5, .int k_1, .int k_2, .int k_3, .int k_4, .int k_5, .long k_6, .int k_7, .int k_8, .int k_9, .int k_10, .ref a_6, .ref a_7, .ref a_8, .ref a_9, .ref a_10, .ref a_11, .ref a_12, .ref a_13, .ref a_14, .ref a_15, .ref a_16, .ref a_17, .ref a_18, .int i_0, .int i_1, .int i_2, .int i_3, .int i_4, .int i_5, .ref a_19, .int i_6, .ref a_20])), (a_6, .inl (cy 1, 5, .inl n1)), (a_7, .inl (cy 1, 30, .inl n3)), (a_8, .inl (cy 1, 90, .inl n5)), (a_9, .inl (cy 1, 15, .inl u)), (a_10, .inl (cy 1, 1050, .inl (fun _ => 0))), (a_11, .inl (cy 1, 30, .inl (fun _ => 0))), (a_12, .inl (cy 1, 240, .inl (fun _ => 0))), (a_13, .inl (cy 1, 450, .inl (fun _ => 0)))]) [4] [0, 1, 2, 3, 5, 6, 7, 8] (n := 9) (fun _ => rfl) (by decide +kernel) (by decide +kernel) rfl (fun _ => rfl) (wr := [(a_0, .inr (12, [.int k_0, .ref a_1, .ref a_2, .ref a_3, .ref a_4, .ref a_5, .int k_1, .int k_2, .int k_3, .int k_4, .int k_5, .long k_6, .int k_7, .int k_8, .int k_9, .int k_10, .ref a_6, .ref a_7, .ref a_8, .ref a_9, .ref a_10, .ref a_11, .ref a_12, .ref a_13, .ref a_14, .ref a_15, .ref a_16, .ref a_17, .ref a_18, .int i_0, .int i_1, .int i_2, .int i_3, .int i_4, .int i_5, .ref a_19, .int i_6, .ref a_20])), (a_6, .inl (cy 1, 5, .inl n1)), (a_7, .inl (cy 1, 30, .inl n3)), (a_8, .inl (cy 1, 90, .inl n5)), (a_10, .inl (cy 1, 1050, .inl (fun _ => 0))), (a_11, .inl (cy 1, 30, .inl (fun _ => 0))), (a_12, .inl (cy 1, 240, .inl (fun _ => 0))), (a_13, .inl (cy 1, 450, .inl (fun _ => 0)))]) rfl (fun _ => rfl) (fun _ => rfl) ?_
  clear hP hD hS
  clear H locs
  intro n7 H locs hw (hP : va_P G vwCl [(a_0, .inr (12, [.int k_0, .ref a_1, .ref a_2, .ref a_3, .ref a_4, .ref a_5, .int k_1, .int k_2, .int k_3, .int k_4, .int k_5, .long k_6, .int k_7, .int k_8, .int k_9, .int k_10, .ref a_6, .ref a_7, .ref a_8, .ref a_9, .ref a_10, .ref a_11, .ref a_12, .ref a_13, .ref a_14, .ref a_15, .ref a_16, .ref a_17, .ref a_18, .int i_0, .int i_1, .int i_2, .int i_3, .int i_4, .int i_5, .ref a_19, .int i_6, .ref a_20])), (a_6, .inl (cy 1, 5, .inl n1)), (a_7, .inl (cy 1, 30, .inl n3)), (a_8, .inl (cy 1, 90, .inl n5)), (a_9, .inl (cy 1, 15, .inl n7)), (a_10, .inl (cy 1, 1050, .inl (fun _ => 0))), (a_11, .inl (cy 1, 30, .inl (fun _ => 0))), (a_12, .inl (cy 1, 240, .inl (fun _ => 0))), (a_13, .inl (cy 1, 450, .inl (fun _ => 0)))] H) (hD : va_D A [(a_0, .inr (12, [.int k_0, .ref a_1, .ref a_2, .ref a_3, .ref a_4, .ref a_5, .int k_1, .int k_2, .int k_3, .int k_4, .int k_5, .long k_6, .int k_7, .int k_8, .int k_9, .int k_10, .ref a_6, .ref a_7, .ref a_8, .ref a_9, .ref a_10, .ref a_11, .ref a_12, .ref a_13, .ref a_14, .ref a_15, .ref a_16, .ref a_17, .ref a_18, .int i_0, .int i_1, .int i_2, .int i_3, .int i_4, .int i_5, .ref a_19, .int i_6, .ref a_20])), (a_6, .inl (cy 1, 5, .inl n1)), (a_7, .inl (cy 1, 30, .inl n3)), (a_8, .inl (cy 1, 90, .inl n5)), (a_9, .inl (cy 1, 15, .inl n7)), (a_10, .inl (cy 1, 1050, .inl (fun _ => 0))), (a_11, .inl (cy 1, 30, .inl (fun _ => 0))), (a_12, .inl (cy 1, 240, .inl (fun _ => 0))), (a_13, .inl (cy 1, 450, .inl (fun _ => 0)))]) hS
  have w8 := hw
  refine lv_aload_n hx hb dX12_copyBook_42 rfl (lv_at hl 0 rfl) ?_
  refine va_get (D := G) (ci := 12) (v := .ref a_10) (C := RX12) (T := TX12) (N := 38) hx hb hts (mm_i inlX12) hown hK.1 hP 0 rfl rfl 20 (by decide) (mm_h hts mm_w152) (fun _ h9 => h9) rfl dX12_copyBook_43 ?_
  refine lv_sipush (v := 210) hx hb dX12_copyBook_46 (by decide) ?_
  refine lv_iload_n hx hb dX12_copyBook_49 rfl (lv_at hl 1 rfl) ?_
  refine lv_iload_n hx hb dX12_copyBook_50 rfl (lv_at hl 2 rfl) ?_
  refine mm_finv (va_runS (As := [.ref a_10, .int 210, .int 4, .int 0]) (rest := []) ⟨hx, hb, hml, hown, hts⟩ (K83_X12_copyRow l G cy H.size a_10 ) (va_cwS 4 hts (mm_gS mm_w557 mm_w558 mm_w5 mm_w559) rfl rfl rfl hs_X12_copyRow ⟨by rw [hRf]; exact Nat.le_of_ble_eq_true rfl, by rw [hRl]; exact Nat.le_of_ble_eq_true rfl⟩) (mm_preS hK hP hD [5] rfl rfl) rfl rfl hl.1 rfl (lv_room (Nat.le_of_ble_eq_true rfl)) dX12_copyBook_51 ⟨by rw [hRc]; exact Nat.le_of_ble_eq_true rfl, by rw [hRs]; exact Nat.le_of_ble_eq_true rfl⟩) hP hD hS hA (fun u : (Nat → Int32) => [(a_0, .inr (12, [.int k_0, .ref a_1, .ref a_2, .ref a_3, .ref a_4, .ref a_5, .int k_1, .int k_2, .int k_3, .int k_4, .int k_5, .long k_6, .int k_7, .int k_8, .int k_9, .int k_10, .ref a_6, .ref a_7, .ref a_8, .ref a_9, .ref a_10, .ref a_11, .ref a_12, .ref a_13, .ref a_14, .ref a_15, .ref a_16, .ref a_17, .ref a_18, .int i_0, .int i_1, .int i_2, .int i_3, .int i_4, .int i_5, .ref a_19, .int i_6, .ref a_20])), (a_6, .inl (cy 1, 5, .inl n1)), (a_7, .inl (cy 1, 30, .inl n3)), (a_8, .inl (cy 1, 90, .inl n5)), (a_9, .inl (cy 1, 15, .inl n7)), (a_10, .inl (cy 1, 1050, .inl u)), (a_11, .inl (cy 1, 30, .inl (fun _ => 0))), (a_12, .inl (cy 1, 240, .inl (fun _ => 0))), (a_13, .inl (cy 1, 450, .inl (fun _ => 0)))]) [5] [0, 1, 2, 3, 4, 6, 7, 8] (n := 9) (fun _ => rfl) (by decide +kernel) (by decide +kernel) rfl (fun _ => rfl) (wr := [(a_0, .inr (12, [.int k_0, .ref a_1, .ref a_2, .ref a_3, .ref a_4, .ref a_5, .int k_1, .int k_2, .int k_3, .int k_4, .int k_5, .long k_6, .int k_7, .int k_8, .int k_9, .int k_10, .ref a_6, .ref a_7, .ref a_8, .ref a_9, .ref a_10, .ref a_11, .ref a_12, .ref a_13, .ref a_14, .ref a_15, .ref a_16, .ref a_17, .ref a_18, .int i_0, .int i_1, .int i_2, .int i_3, .int i_4, .int i_5, .ref a_19, .int i_6, .ref a_20])), (a_6, .inl (cy 1, 5, .inl n1)), (a_7, .inl (cy 1, 30, .inl n3)), (a_8, .inl (cy 1, 90, .inl n5)), (a_9, .inl (cy 1, 15, .inl n7)), (a_11, .inl (cy 1, 30, .inl (fun _ => 0))), (a_12, .inl (cy 1, 240, .inl (fun _ => 0))), (a_13, .inl (cy 1, 450, .inl (fun _ => 0)))]) rfl (fun _ => rfl) (fun _ => rfl) ?_
  clear hP hD hS
  clear H locs
  intro n9 H locs hw (hP : va_P G vwCl [(a_0, .inr (12, [.int k_0, .ref a_1, .ref a_2, .ref a_3, .ref a_4, .ref a_5, .int k_1, .int k_2, .int k_3, .int k_4, .int k_5, .long k_6, .int k_7, .int k_8, .int k_9, .int k_10, .ref a_6, .ref a_7, .ref a_8, .ref a_9, .ref a_10, .ref a_11, .ref a_12, .ref a_13, .ref a_14, .ref a_15, .ref a_16, .ref a_17, .ref a_18, .int i_0, .int i_1, .int i_2, .int i_3, .int i_4, .int i_5, .ref a_19, .int i_6, .ref a_20])), (a_6, .inl (cy 1, 5, .inl n1)), (a_7, .inl (cy 1, 30, .inl n3)), (a_8, .inl (cy 1, 90, .inl n5)), (a_9, .inl (cy 1, 15, .inl n7)), (a_10, .inl (cy 1, 1050, .inl n9)), (a_11, .inl (cy 1, 30, .inl (fun _ => 0))), (a_12, .inl (cy 1, 240, .inl (fun _ => 0))), (a_13, .inl (cy 1, 450, .inl (fun _ => 0)))] H) (hD : va_D A [(a_0, .inr (12, [.int k_0, .ref a_1, .ref a_2, .ref a_3, .ref a_4, .ref a_5, .int k_1, .int k_2, .int k_3, .int k_4, .int k_5, .long k_6, .int k_7, .int k_8, .int k_9, .int k_10, .ref a_6, .ref a_7, .ref a_8, .ref a_9, .ref a_10, .ref a_11, .ref a_12, .ref a_13, .ref a_14, .ref a_15, .ref a_16, .ref a_17, .ref a_18, .int i_0, .int i_1, .int i_2, .int i_3, .int i_4, .int i_5, .ref a_19, .int i_6, .ref a_20])), (a_6, .inl (cy 1, 5, .inl n1)), (a_7, .inl (cy 1, 30, .inl n3)), (a_8, .inl (cy 1, 90, .inl n5)), (a_9, .inl (cy 1, 15, .inl n7)), (a_10, .inl (cy 1, 1050, .inl n9)), (a_11, .inl (cy 1, 30, .inl (fun _ => 0))), (a_12, .inl (cy 1, 240, .inl (fun _ => 0))), (a_13, .inl (cy 1, 450, .inl (fun _ => 0)))]) hS
  have w10 := hw
  refine lv_aload_n hx hb dX12_copyBook_54 rfl (lv_at hl 0 rfl) ?_
  refine va_get (D := G) (ci := 12) (v := .ref a_11) (C := RX12) (T := TX12) (N := 38) hx hb hts (mm_i inlX12) hown hK.1 hP 0 rfl rfl 21 (by decide) (mm_h hts mm_w153) (fun _ h9 => h9) rfl dX12_copyBook_55 ?_
  refine lv_bipush (v := 6) hx hb dX12_copyBook_58 (by decide) ?_
  refine lv_iload_n hx hb dX12_copyBook_60 rfl (lv_at hl 1 rfl) ?_
  refine lv_iload_n hx hb dX12_copyBook_61 rfl (lv_at hl 2 rfl) ?_
  refine mm_finv (va_runS (As := [.ref a_11, .int 6, .int 4, .int 0]) (rest := []) ⟨hx, hb, hml, hown, hts⟩ (K84_X12_copyRow l G cy H.size a_11 ) (va_cwS 4 hts (mm_gS mm_w557 mm_w558 mm_w5 mm_w559) rfl rfl rfl hs_X12_copyRow ⟨by rw [hRf]; exact Nat.le_of_ble_eq_true rfl, by rw [hRl]; exact Nat.le_of_ble_eq_true rfl⟩) (mm_preS hK hP hD [6] rfl rfl) rfl rfl hl.1 rfl (lv_room (Nat.le_of_ble_eq_true rfl)) dX12_copyBook_62 ⟨by rw [hRc]; exact Nat.le_of_ble_eq_true rfl, by rw [hRs]; exact Nat.le_of_ble_eq_true rfl⟩) hP hD hS hA (fun u : (Nat → Int32) => [(a_0, .inr (12, [.int k_0, .ref a_1, .ref a_2, .ref a_3, .ref a_4, .ref a_5, .int k_1, .int k_2, .int k_3, .int k_4, .int k_5, .long k_6, .int k_7, .int k_8, .int k_9, .int k_10, .ref a_6, .ref a_7, .ref a_8, .ref a_9, .ref a_10, .ref a_11, .ref a_12, .ref a_13, .ref a_14, .ref a_15, .ref a_16, .ref a_17, .ref a_18, .int i_0, .int i_1, .int i_2, .int i_3, .int i_4, .int i_5, .ref a_19, .int i_6, .ref a_20])), (a_6, .inl (cy 1, 5, .inl n1)), (a_7, .inl (cy 1, 30, .inl n3)), (a_8, .inl (cy 1, 90, .inl n5)), (a_9, .inl (cy 1, 15, .inl n7)), (a_10, .inl (cy 1, 1050, .inl n9)), (a_11, .inl (cy 1, 30, .inl u)), (a_12, .inl (cy 1, 240, .inl (fun _ => 0))), (a_13, .inl (cy 1, 450, .inl (fun _ => 0)))]) [6] [0, 1, 2, 3, 4, 5, 7, 8] (n := 9) (fun _ => rfl) (by decide +kernel) (by decide +kernel) rfl (fun _ => rfl) (wr := [(a_0, .inr (12, [.int k_0, .ref a_1, .ref a_2, .ref a_3, .ref a_4, .ref a_5, .int k_1, .int k_2, .int k_3, .int k_4, .int k_5, .long k_6, .int k_7, .int k_8, .int k_9, .int k_10, .ref a_6, .ref a_7, .ref a_8, .ref a_9, .ref a_10, .ref a_11, .ref a_12, .ref a_13, .ref a_14, .ref a_15, .ref a_16, .ref a_17, .ref a_18, .int i_0, .int i_1, .int i_2, .int i_3, .int i_4, .int i_5, .ref a_19, .int i_6, .ref a_20])), (a_6, .inl (cy 1, 5, .inl n1)), (a_7, .inl (cy 1, 30, .inl n3)), (a_8, .inl (cy 1, 90, .inl n5)), (a_9, .inl (cy 1, 15, .inl n7)), (a_10, .inl (cy 1, 1050, .inl n9)), (a_12, .inl (cy 1, 240, .inl (fun _ => 0))), (a_13, .inl (cy 1, 450, .inl (fun _ => 0)))]) rfl (fun _ => rfl) (fun _ => rfl) ?_
  clear hP hD hS
  clear H locs
  intro n11 H locs hw (hP : va_P G vwCl [(a_0, .inr (12, [.int k_0, .ref a_1, .ref a_2, .ref a_3, .ref a_4, .ref a_5, .int k_1, .int k_2, .int k_3, .int k_4, .int k_5, .long k_6, .int k_7, .int k_8, .int k_9, .int k_10, .ref a_6, .ref a_7, .ref a_8, .ref a_9, .ref a_10, .ref a_11, .ref a_12, .ref a_13, .ref a_14, .ref a_15, .ref a_16, .ref a_17, .ref a_18, .int i_0, .int i_1, .int i_2, .int i_3, .int i_4, .int i_5, .ref a_19, .int i_6, .ref a_20])), (a_6, .inl (cy 1, 5, .inl n1)), (a_7, .inl (cy 1, 30, .inl n3)), (a_8, .inl (cy 1, 90, .inl n5)), (a_9, .inl (cy 1, 15, .inl n7)), (a_10, .inl (cy 1, 1050, .inl n9)), (a_11, .inl (cy 1, 30, .inl n11)), (a_12, .inl (cy 1, 240, .inl (fun _ => 0))), (a_13, .inl (cy 1, 450, .inl (fun _ => 0)))] H) (hD : va_D A [(a_0, .inr (12, [.int k_0, .ref a_1, .ref a_2, .ref a_3, .ref a_4, .ref a_5, .int k_1, .int k_2, .int k_3, .int k_4, .int k_5, .long k_6, .int k_7, .int k_8, .int k_9, .int k_10, .ref a_6, .ref a_7, .ref a_8, .ref a_9, .ref a_10, .ref a_11, .ref a_12, .ref a_13, .ref a_14, .ref a_15, .ref a_16, .ref a_17, .ref a_18, .int i_0, .int i_1, .int i_2, .int i_3, .int i_4, .int i_5, .ref a_19, .int i_6, .ref a_20])), (a_6, .inl (cy 1, 5, .inl n1)), (a_7, .inl (cy 1, 30, .inl n3)), (a_8, .inl (cy 1, 90, .inl n5)), (a_9, .inl (cy 1, 15, .inl n7)), (a_10, .inl (cy 1, 1050, .inl n9)), (a_11, .inl (cy 1, 30, .inl n11)), (a_12, .inl (cy 1, 240, .inl (fun _ => 0))), (a_13, .inl (cy 1, 450, .inl (fun _ => 0)))]) hS
  have w12 := hw
  refine lv_aload_n hx hb dX12_copyBook_65 rfl (lv_at hl 0 rfl) ?_
  refine va_get (D := G) (ci := 12) (v := .ref a_12) (C := RX12) (T := TX12) (N := 38) hx hb hts (mm_i inlX12) hown hK.1 hP 0 rfl rfl 22 (by decide) (mm_h hts mm_w154) (fun _ h9 => h9) rfl dX12_copyBook_66 ?_
  refine lv_bipush (v := 48) hx hb dX12_copyBook_69 (by decide) ?_
  refine lv_iload_n hx hb dX12_copyBook_71 rfl (lv_at hl 1 rfl) ?_
  refine lv_iload_n hx hb dX12_copyBook_72 rfl (lv_at hl 2 rfl) ?_
  refine mm_finv (va_runS (As := [.ref a_12, .int 48, .int 4, .int 0]) (rest := []) ⟨hx, hb, hml, hown, hts⟩ (K85_X12_copyRow l G cy H.size a_12 ) (va_cwS 4 hts (mm_gS mm_w557 mm_w558 mm_w5 mm_w559) rfl rfl rfl hs_X12_copyRow ⟨by rw [hRf]; exact Nat.le_of_ble_eq_true rfl, by rw [hRl]; exact Nat.le_of_ble_eq_true rfl⟩) (mm_preS hK hP hD [7] rfl rfl) rfl rfl hl.1 rfl (lv_room (Nat.le_of_ble_eq_true rfl)) dX12_copyBook_73 ⟨by rw [hRc]; exact Nat.le_of_ble_eq_true rfl, by rw [hRs]; exact Nat.le_of_ble_eq_true rfl⟩) hP hD hS hA (fun u : (Nat → Int32) => [(a_0, .inr (12, [.int k_0, .ref a_1, .ref a_2, .ref a_3, .ref a_4, .ref a_5, .int k_1, .int k_2, .int k_3, .int k_4, .int k_5, .long k_6, .int k_7, .int k_8, .int k_9, .int k_10, .ref a_6, .ref a_7, .ref a_8, .ref a_9, .ref a_10, .ref a_11, .ref a_12, .ref a_13, .ref a_14, .ref a_15, .ref a_16, .ref a_17, .ref a_18, .int i_0, .int i_1, .int i_2, .int i_3, .int i_4, .int i_5, .ref a_19, .int i_6, .ref a_20])), (a_6, .inl (cy 1, 5, .inl n1)), (a_7, .inl (cy 1, 30, .inl n3)), (a_8, .inl (cy 1, 90, .inl n5)), (a_9, .inl (cy 1, 15, .inl n7)), (a_10, .inl (cy 1, 1050, .inl n9)), (a_11, .inl (cy 1, 30, .inl n11)), (a_12, .inl (cy 1, 240, .inl u)), (a_13, .inl (cy 1, 450, .inl (fun _ => 0)))]) [7] [0, 1, 2, 3, 4, 5, 6, 8] (n := 9) (fun _ => rfl) (by decide +kernel) (by decide +kernel) rfl (fun _ => rfl) (wr := [(a_0, .inr (12, [.int k_0, .ref a_1, .ref a_2, .ref a_3, .ref a_4, .ref a_5, .int k_1, .int k_2, .int k_3, .int k_4, .int k_5, .long k_6, .int k_7, .int k_8, .int k_9, .int k_10, .ref a_6, .ref a_7, .ref a_8, .ref a_9, .ref a_10, .ref a_11, .ref a_12, .ref a_13, .ref a_14, .ref a_15, .ref a_16, .ref a_17, .ref a_18, .int i_0, .int i_1, .int i_2, .int i_3, .int i_4, .int i_5, .ref a_19, .int i_6, .ref a_20])), (a_6, .inl (cy 1, 5, .inl n1)), (a_7, .inl (cy 1, 30, .inl n3)), (a_8, .inl (cy 1, 90, .inl n5)), (a_9, .inl (cy 1, 15, .inl n7)), (a_10, .inl (cy 1, 1050, .inl n9)), (a_11, .inl (cy 1, 30, .inl n11)), (a_13, .inl (cy 1, 450, .inl (fun _ => 0)))]) rfl (fun _ => rfl) (fun _ => rfl) ?_
  clear hP hD hS
  clear H locs
  intro n13 H locs hw (hP : va_P G vwCl [(a_0, .inr (12, [.int k_0, .ref a_1, .ref a_2, .ref a_3, .ref a_4, .ref a_5, .int k_1, .int k_2, .int k_3, .int k_4, .int k_5, .long k_6, .int k_7, .int k_8, .int k_9, .int k_10, .ref a_6, .ref a_7, .ref a_8, .ref a_9, .ref a_10, .ref a_11, .ref a_12, .ref a_13, .ref a_14, .ref a_15, .ref a_16, .ref a_17, .ref a_18, .int i_0, .int i_1, .int i_2, .int i_3, .int i_4, .int i_5, .ref a_19, .int i_6, .ref a_20])), (a_6, .inl (cy 1, 5, .inl n1)), (a_7, .inl (cy 1, 30, .inl n3)), (a_8, .inl (cy 1, 90, .inl n5)), (a_9, .inl (cy 1, 15, .inl n7)), (a_10, .inl (cy 1, 1050, .inl n9)), (a_11, .inl (cy 1, 30, .inl n11)), (a_12, .inl (cy 1, 240, .inl n13)), (a_13, .inl (cy 1, 450, .inl (fun _ => 0)))] H) (hD : va_D A [(a_0, .inr (12, [.int k_0, .ref a_1, .ref a_2, .ref a_3, .ref a_4, .ref a_5, .int k_1, .int k_2, .int k_3, .int k_4, .int k_5, .long k_6, .int k_7, .int k_8, .int k_9, .int k_10, .ref a_6, .ref a_7, .ref a_8, .ref a_9, .ref a_10, .ref a_11, .ref a_12, .ref a_13, .ref a_14, .ref a_15, .ref a_16, .ref a_17, .ref a_18, .int i_0, .int i_1, .int i_2, .int i_3, .int i_4, .int i_5, .ref a_19, .int i_6, .ref a_20])), (a_6, .inl (cy 1, 5, .inl n1)), (a_7, .inl (cy 1, 30, .inl n3)), (a_8, .inl (cy 1, 90, .inl n5)), (a_9, .inl (cy 1, 15, .inl n7)), (a_10, .inl (cy 1, 1050, .inl n9)), (a_11, .inl (cy 1, 30, .inl n11)), (a_12, .inl (cy 1, 240, .inl n13)), (a_13, .inl (cy 1, 450, .inl (fun _ => 0)))]) hS
  have w14 := hw
  refine lv_aload_n hx hb dX12_copyBook_76 rfl (lv_at hl 0 rfl) ?_
  refine va_get (D := G) (ci := 12) (v := .ref a_13) (C := RX12) (T := TX12) (N := 38) hx hb hts (mm_i inlX12) hown hK.1 hP 0 rfl rfl 23 (by decide) (mm_h hts mm_w155) (fun _ h9 => h9) rfl dX12_copyBook_77 ?_
  refine lv_bipush (v := 90) hx hb dX12_copyBook_80 (by decide) ?_
  refine lv_iload_n hx hb dX12_copyBook_82 rfl (lv_at hl 1 rfl) ?_
  refine lv_iload_n hx hb dX12_copyBook_83 rfl (lv_at hl 2 rfl) ?_
  refine mm_finv (va_runS (As := [.ref a_13, .int 90, .int 4, .int 0]) (rest := []) ⟨hx, hb, hml, hown, hts⟩ (K86_X12_copyRow l G cy H.size a_13 ) (va_cwS 4 hts (mm_gS mm_w557 mm_w558 mm_w5 mm_w559) rfl rfl rfl hs_X12_copyRow ⟨by rw [hRf]; exact Nat.le_of_ble_eq_true rfl, by rw [hRl]; exact Nat.le_of_ble_eq_true rfl⟩) (mm_preS hK hP hD [8] rfl rfl) rfl rfl hl.1 rfl (lv_room (Nat.le_of_ble_eq_true rfl)) dX12_copyBook_84 ⟨by rw [hRc]; exact Nat.le_of_ble_eq_true rfl, by rw [hRs]; exact Nat.le_of_ble_eq_true rfl⟩) hP hD hS hA (fun u : (Nat → Int32) => [(a_0, .inr (12, [.int k_0, .ref a_1, .ref a_2, .ref a_3, .ref a_4, .ref a_5, .int k_1, .int k_2, .int k_3, .int k_4, .int k_5, .long k_6, .int k_7, .int k_8, .int k_9, .int k_10, .ref a_6, .ref a_7, .ref a_8, .ref a_9, .ref a_10, .ref a_11, .ref a_12, .ref a_13, .ref a_14, .ref a_15, .ref a_16, .ref a_17, .ref a_18, .int i_0, .int i_1, .int i_2, .int i_3, .int i_4, .int i_5, .ref a_19, .int i_6, .ref a_20])), (a_6, .inl (cy 1, 5, .inl n1)), (a_7, .inl (cy 1, 30, .inl n3)), (a_8, .inl (cy 1, 90, .inl n5)), (a_9, .inl (cy 1, 15, .inl n7)), (a_10, .inl (cy 1, 1050, .inl n9)), (a_11, .inl (cy 1, 30, .inl n11)), (a_12, .inl (cy 1, 240, .inl n13)), (a_13, .inl (cy 1, 450, .inl u))]) [8] [0, 1, 2, 3, 4, 5, 6, 7] (n := 9) (fun _ => rfl) (by decide +kernel) (by decide +kernel) rfl (fun _ => rfl) (wr := [(a_0, .inr (12, [.int k_0, .ref a_1, .ref a_2, .ref a_3, .ref a_4, .ref a_5, .int k_1, .int k_2, .int k_3, .int k_4, .int k_5, .long k_6, .int k_7, .int k_8, .int k_9, .int k_10, .ref a_6, .ref a_7, .ref a_8, .ref a_9, .ref a_10, .ref a_11, .ref a_12, .ref a_13, .ref a_14, .ref a_15, .ref a_16, .ref a_17, .ref a_18, .int i_0, .int i_1, .int i_2, .int i_3, .int i_4, .int i_5, .ref a_19, .int i_6, .ref a_20])), (a_6, .inl (cy 1, 5, .inl n1)), (a_7, .inl (cy 1, 30, .inl n3)), (a_8, .inl (cy 1, 90, .inl n5)), (a_9, .inl (cy 1, 15, .inl n7)), (a_10, .inl (cy 1, 1050, .inl n9)), (a_11, .inl (cy 1, 30, .inl n11)), (a_12, .inl (cy 1, 240, .inl n13))]) rfl (fun _ => rfl) (fun _ => rfl) ?_
  clear hP hD hS
  clear H locs
  intro n15 H locs hw (hP : va_P G vwCl [(a_0, .inr (12, [.int k_0, .ref a_1, .ref a_2, .ref a_3, .ref a_4, .ref a_5, .int k_1, .int k_2, .int k_3, .int k_4, .int k_5, .long k_6, .int k_7, .int k_8, .int k_9, .int k_10, .ref a_6, .ref a_7, .ref a_8, .ref a_9, .ref a_10, .ref a_11, .ref a_12, .ref a_13, .ref a_14, .ref a_15, .ref a_16, .ref a_17, .ref a_18, .int i_0, .int i_1, .int i_2, .int i_3, .int i_4, .int i_5, .ref a_19, .int i_6, .ref a_20])), (a_6, .inl (cy 1, 5, .inl n1)), (a_7, .inl (cy 1, 30, .inl n3)), (a_8, .inl (cy 1, 90, .inl n5)), (a_9, .inl (cy 1, 15, .inl n7)), (a_10, .inl (cy 1, 1050, .inl n9)), (a_11, .inl (cy 1, 30, .inl n11)), (a_12, .inl (cy 1, 240, .inl n13)), (a_13, .inl (cy 1, 450, .inl n15))] H) (hD : va_D A [(a_0, .inr (12, [.int k_0, .ref a_1, .ref a_2, .ref a_3, .ref a_4, .ref a_5, .int k_1, .int k_2, .int k_3, .int k_4, .int k_5, .long k_6, .int k_7, .int k_8, .int k_9, .int k_10, .ref a_6, .ref a_7, .ref a_8, .ref a_9, .ref a_10, .ref a_11, .ref a_12, .ref a_13, .ref a_14, .ref a_15, .ref a_16, .ref a_17, .ref a_18, .int i_0, .int i_1, .int i_2, .int i_3, .int i_4, .int i_5, .ref a_19, .int i_6, .ref a_20])), (a_6, .inl (cy 1, 5, .inl n1)), (a_7, .inl (cy 1, 30, .inl n3)), (a_8, .inl (cy 1, 90, .inl n5)), (a_9, .inl (cy 1, 15, .inl n7)), (a_10, .inl (cy 1, 1050, .inl n9)), (a_11, .inl (cy 1, 30, .inl n11)), (a_12, .inl (cy 1, 240, .inl n13)), (a_13, .inl (cy 1, 450, .inl n15))]) hS
  have w16 := hw
  subst hAe
  rw [hQ]
  exact W.vret hx hb hr (fun t ht hW => ⟨⟨(n1, n3, n5, n7, n9, n11, n13, n15), rfl, ⟨w2, w4, w6, w8, w10, w12, w14, w16⟩, by rw [ht]; exact hP, hK.warm hW, hD⟩, hS.F ht⟩) hS.2.2 dX12_copyBook_87

set_option maxHeartbeats 4000000 in
set_option maxRecDepth 100000 in
theorem K88_X12_book (l : Launch) (G : va_G) (cy : Nat → ClassId) (sz : Nat) (a_0 : Nat) (a_1 : Nat) (a_2 : Nat) (a_3 : Nat) (a_4 : Nat) (a_5 : Nat) (a_6 : Nat) (a_7 : Nat) (a_8 : Nat) (a_9 : Nat) (a_10 : Nat) (a_11 : Nat) (a_12 : Nat) (a_13 : Nat) (a_14 : Nat) (a_15 : Nat) (a_16 : Nat) (a_17 : Nat) (a_18 : Nat) (k_0 : Int32) (k_1 : Int32) (k_2 : Int32) (k_3 : Int32) (k_4 : Int32) (k_5 : Int32) (a_19 : Nat) (k_6 : Int32) (a_20 : Nat)   : mm_CI l yX12_book (mm_ws yX12_book cX12_book 1 (some .int)) ({ frames := 3, cells := 0, slots := 0, locals := 64 } : Room) G cy sz [(a_0, .inr (12, [.int 0, .ref a_1, .ref a_2, .ref a_3, .ref a_4, .ref a_5, .int 0, .int 0, .int 0, .int 0, .int 0, .long 0, .int 0, .int 0, .int 0, .int (-1), .ref a_6, .ref a_7, .ref a_8, .ref a_9, .ref a_10, .ref a_11, .ref a_12, .ref a_13, .ref a_14, .ref a_15, .ref a_16, .ref a_17, .ref a_18, .int k_0, .int k_1, .int k_2, .int k_3, .int k_4, .int k_5, .ref a_19, .int k_6, .ref a_20])), (a_6, .inl (cy 1, 5, .inl (fun _ => 0))), (a_7, .inl (cy 1, 30, .inl (fun _ => 0))), (a_8, .inl (cy 1, 90, .inl (fun _ => 0))), (a_9, .inl (cy 1, 15, .inl (fun _ => 0))), (a_10, .inl (cy 1, 1050, .inl (fun _ => 0))), (a_11, .inl (cy 1, 30, .inl (fun _ => 0))), (a_12, .inl (cy 1, 240, .inl (fun _ => 0))), (a_13, .inl (cy 1, 450, .inl (fun _ => 0)))] [.ref a_0] (fun u : (Nat → Int32) × (Nat → Int32) × (Nat → Int32) × (Nat → Int32) × (Nat → Int32) × (Nat → Int32) × (Nat → Int32) × (Nat → Int32) => [(a_0, .inr (12, [.int 0, .ref a_1, .ref a_2, .ref a_3, .ref a_4, .ref a_5, .int 0, .int 0, .int 0, .int 0, .int 0, .long 0, .int 0, .int (-1), .int 0, .int (-1), .ref a_6, .ref a_7, .ref a_8, .ref a_9, .ref a_10, .ref a_11, .ref a_12, .ref a_13, .ref a_14, .ref a_15, .ref a_16, .ref a_17, .ref a_18, .int k_0, .int k_1, .int k_2, .int k_3, .int k_4, .int k_5, .ref a_19, .int k_6, .ref a_20])), (a_6, .inl (cy 1, 5, .inl u.1)), (a_7, .inl (cy 1, 30, .inl u.2.1)), (a_8, .inl (cy 1, 90, .inl u.2.2.1)), (a_9, .inl (cy 1, 15, .inl u.2.2.2.1)), (a_10, .inl (cy 1, 1050, .inl u.2.2.2.2.1)), (a_11, .inl (cy 1, 30, .inl u.2.2.2.2.2.1)), (a_12, .inl (cy 1, 240, .inl u.2.2.2.2.2.2.1)), (a_13, .inl (cy 1, 450, .inl u.2.2.2.2.2.2.2))]) (fun (r : Int32) (u : (Nat → Int32) × (Nat → Int32) × (Nat → Int32) × (Nat → Int32) × (Nat → Int32) × (Nat → Int32) × (Nat → Int32) × (Nat → Int32)) => mm_ar u.1 0 0 ∧ mm_ar u.2.1 0 0 ∧ mm_ar u.2.2.1 0 0 ∧ mm_ar u.2.2.2.1 0 0 ∧ mm_ar u.2.2.2.2.1 0 0 ∧ mm_ar u.2.2.2.2.2.1 0 0 ∧ mm_ar u.2.2.2.2.2.2.1 0 0 ∧ mm_ar u.2.2.2.2.2.2.2 0 0 ∧ 0 = r) 0 0 := by
  refine mm_begin (lv := [(0, .ref a_0)]) (by decide) (Nat.le_of_ble_eq_true rfl) rfl ?_
  intro p e s m below meth c A ls R args Q H locs hRe hQ hAe hx hb hr hlocks hml hown hnm hts hsz hA hS hP hK hD hl
  have hRf : R.frames = 3 := by rw [hRe]
  have hRl : R.locals = 64 := by rw [hRe]
  have hRc : R.cells = 0 := by rw [hRe]
  have hRs : R.slots = 0 := by rw [hRe]
  refine lv_aload_n hx hb dX12_book_0 rfl (lv_at hl 0 rfl) ?_
  refine lv_iconst (v := 0) hx hb dX12_book_1 (by decide) ?_
  refine va_put (D := G) (ci := 12) (v := .int 0) (ty := tyX12 0) (C := RX12) (T := TX12) (N := 38) hx hb hts (mm_i inlX12) tyX12 tyX12_ok nmX12 hown hK.1 hP hD hS 0 rfl rfl 0 (by decide) (mm_h hts mm_w177) (fun _ h9 => h9) rfl (tyX12_ok 0 (by decide)) rfl rfl (Nat.le_of_ble_eq_true rfl) dX12_book_2 ?_
  clear hP hD hS
  clear H locs
  intro H locs (hP : va_P G vwCl [(a_0, .inr (12, [.int 0, .ref a_1, .ref a_2, .ref a_3, .ref a_4, .ref a_5, .int 0, .int 0, .int 0, .int 0, .int 0, .long 0, .int 0, .int 0, .int 0, .int (-1), .ref a_6, .ref a_7, .ref a_8, .ref a_9, .ref a_10, .ref a_11, .ref a_12, .ref a_13, .ref a_14, .ref a_15, .ref a_16, .ref a_17, .ref a_18, .int k_0, .int k_1, .int k_2, .int k_3, .int k_4, .int k_5, .ref a_19, .int k_6, .ref a_20])), (a_6, .inl (cy 1, 5, .inl (fun _ => 0))), (a_7, .inl (cy 1, 30, .inl (fun _ => 0))), (a_8, .inl (cy 1, 90, .inl (fun _ => 0))), (a_9, .inl (cy 1, 15, .inl (fun _ => 0))), (a_10, .inl (cy 1, 1050, .inl (fun _ => 0))), (a_11, .inl (cy 1, 30, .inl (fun _ => 0))), (a_12, .inl (cy 1, 240, .inl (fun _ => 0))), (a_13, .inl (cy 1, 450, .inl (fun _ => 0)))] H) (hD : va_D A [(a_0, .inr (12, [.int 0, .ref a_1, .ref a_2, .ref a_3, .ref a_4, .ref a_5, .int 0, .int 0, .int 0, .int 0, .int 0, .long 0, .int 0, .int 0, .int 0, .int (-1), .ref a_6, .ref a_7, .ref a_8, .ref a_9, .ref a_10, .ref a_11, .ref a_12, .ref a_13, .ref a_14, .ref a_15, .ref a_16, .ref a_17, .ref a_18, .int k_0, .int k_1, .int k_2, .int k_3, .int k_4, .int k_5, .ref a_19, .int k_6, .ref a_20])), (a_6, .inl (cy 1, 5, .inl (fun _ => 0))), (a_7, .inl (cy 1, 30, .inl (fun _ => 0))), (a_8, .inl (cy 1, 90, .inl (fun _ => 0))), (a_9, .inl (cy 1, 15, .inl (fun _ => 0))), (a_10, .inl (cy 1, 1050, .inl (fun _ => 0))), (a_11, .inl (cy 1, 30, .inl (fun _ => 0))), (a_12, .inl (cy 1, 240, .inl (fun _ => 0))), (a_13, .inl (cy 1, 450, .inl (fun _ => 0)))]) hS
  refine lv_aload_n hx hb dX12_book_5 rfl (lv_at hl 0 rfl) ?_
  refine mm_finv (va_runV (As := []) (rest := []) ⟨hx, hb, hml, hown, hts⟩ (K95_X12_clears l G cy H.size a_0 0 a_1 a_2 a_3 a_4 a_5 0 0 0 0 0 0 0 0 0 (-1) a_6 a_7 a_8 a_9 a_10 a_11 a_12 a_13 a_14 a_15 a_16 a_17 a_18 k_0 k_1 k_2 k_3 k_4 k_5 a_19 k_6 a_20 ) (cwV 0 hts (mm_gV mm_w437 mm_w438 mm_w439 mm_w5 mm_w440) rfl rfl rfl hd_X12_clears ⟨by rw [hRf]; exact Nat.le_of_ble_eq_true rfl, by rw [hRl]; exact Nat.le_of_ble_eq_true rfl⟩) (mm_preV hK hP hD [0, 1, 2, 4] rfl rfl 0 rfl rfl rfl) rfl rfl hl.1 rfl (lv_room (Nat.le_of_ble_eq_true rfl)) dX12_book_6 ⟨by rw [hRc]; exact Nat.le_of_ble_eq_true rfl, by rw [hRs]; exact Nat.le_of_ble_eq_true rfl⟩) hP hD hS hA (fun u : (Nat → Int32) × (Nat → Int32) × (Nat → Int32) => [(a_0, .inr (12, [.int 0, .ref a_1, .ref a_2, .ref a_3, .ref a_4, .ref a_5, .int 0, .int 0, .int 0, .int 0, .int 0, .long 0, .int 0, .int 0, .int 0, .int (-1), .ref a_6, .ref a_7, .ref a_8, .ref a_9, .ref a_10, .ref a_11, .ref a_12, .ref a_13, .ref a_14, .ref a_15, .ref a_16, .ref a_17, .ref a_18, .int k_0, .int k_1, .int k_2, .int k_3, .int k_4, .int k_5, .ref a_19, .int k_6, .ref a_20])), (a_6, .inl (cy 1, 5, .inl u.1)), (a_7, .inl (cy 1, 30, .inl u.2.1)), (a_8, .inl (cy 1, 90, .inl (fun _ => 0))), (a_9, .inl (cy 1, 15, .inl u.2.2)), (a_10, .inl (cy 1, 1050, .inl (fun _ => 0))), (a_11, .inl (cy 1, 30, .inl (fun _ => 0))), (a_12, .inl (cy 1, 240, .inl (fun _ => 0))), (a_13, .inl (cy 1, 450, .inl (fun _ => 0)))]) [0, 1, 2, 4] [3, 5, 6, 7, 8] (n := 9) (fun _ => rfl) (by decide +kernel) (by decide +kernel) rfl (fun _ => rfl) (wr := [(a_8, .inl (cy 1, 90, .inl (fun _ => 0))), (a_10, .inl (cy 1, 1050, .inl (fun _ => 0))), (a_11, .inl (cy 1, 30, .inl (fun _ => 0))), (a_12, .inl (cy 1, 240, .inl (fun _ => 0))), (a_13, .inl (cy 1, 450, .inl (fun _ => 0)))]) rfl (fun _ => rfl) (fun _ => rfl) ?_
  clear hP hD hS
  clear H locs
  intro u
  obtain ⟨n1, n2, n3⟩ := u
  intro H locs hw (hP : va_P G vwCl [(a_0, .inr (12, [.int 0, .ref a_1, .ref a_2, .ref a_3, .ref a_4, .ref a_5, .int 0, .int 0, .int 0, .int 0, .int 0, .long 0, .int 0, .int 0, .int 0, .int (-1), .ref a_6, .ref a_7, .ref a_8, .ref a_9, .ref a_10, .ref a_11, .ref a_12, .ref a_13, .ref a_14, .ref a_15, .ref a_16, .ref a_17, .ref a_18, .int k_0, .int k_1, .int k_2, .int k_3, .int k_4, .int k_5, .ref a_19, .int k_6, .ref a_20])), (a_6, .inl (cy 1, 5, .inl n1)), (a_7, .inl (cy 1, 30, .inl n2)), (a_8, .inl (cy 1, 90, .inl (fun _ => 0))), (a_9, .inl (cy 1, 15, .inl n3)), (a_10, .inl (cy 1, 1050, .inl (fun _ => 0))), (a_11, .inl (cy 1, 30, .inl (fun _ => 0))), (a_12, .inl (cy 1, 240, .inl (fun _ => 0))), (a_13, .inl (cy 1, 450, .inl (fun _ => 0)))] H) (hD : va_D A [(a_0, .inr (12, [.int 0, .ref a_1, .ref a_2, .ref a_3, .ref a_4, .ref a_5, .int 0, .int 0, .int 0, .int 0, .int 0, .long 0, .int 0, .int 0, .int 0, .int (-1), .ref a_6, .ref a_7, .ref a_8, .ref a_9, .ref a_10, .ref a_11, .ref a_12, .ref a_13, .ref a_14, .ref a_15, .ref a_16, .ref a_17, .ref a_18, .int k_0, .int k_1, .int k_2, .int k_3, .int k_4, .int k_5, .ref a_19, .int k_6, .ref a_20])), (a_6, .inl (cy 1, 5, .inl n1)), (a_7, .inl (cy 1, 30, .inl n2)), (a_8, .inl (cy 1, 90, .inl (fun _ => 0))), (a_9, .inl (cy 1, 15, .inl n3)), (a_10, .inl (cy 1, 1050, .inl (fun _ => 0))), (a_11, .inl (cy 1, 30, .inl (fun _ => 0))), (a_12, .inl (cy 1, 240, .inl (fun _ => 0))), (a_13, .inl (cy 1, 450, .inl (fun _ => 0)))]) hS
  obtain ⟨w4, w5, w6⟩ := hw
  refine lv_aload_n hx hb dX12_book_9 rfl (lv_at hl 0 rfl) ?_
  refine mm_finv (va_runV (As := []) (rest := []) ⟨hx, hb, hml, hown, hts⟩ (K99_X12_begins l G cy H.size a_0 0 a_1 a_2 a_3 a_4 a_5 0 (-1) a_6 a_7 a_8 a_9 a_10 a_11 a_12 a_13 a_14 a_15 a_16 a_17 a_18 k_0 k_1 k_2 k_3 k_4 k_5 a_19 k_6 a_20 ) (cwV 0 hts (mm_gV mm_w445 mm_w446 mm_w447 mm_w5 mm_w448) rfl rfl rfl hd_X12_begins ⟨by rw [hRf]; exact Nat.le_of_ble_eq_true rfl, by rw [hRl]; exact Nat.le_of_ble_eq_true rfl⟩) (mm_preV hK hP hD [0] rfl rfl 0 rfl rfl rfl) rfl rfl hl.1 rfl (lv_room (Nat.le_of_ble_eq_true rfl)) dX12_book_10 ⟨by rw [hRc]; exact Nat.le_of_ble_eq_true rfl, by rw [hRs]; exact Nat.le_of_ble_eq_true rfl⟩) hP hD hS hA (fun u : Unit => [(a_0, .inr (12, [.int 0, .ref a_1, .ref a_2, .ref a_3, .ref a_4, .ref a_5, .int 0, .int 0, .int 0, .int 0, .int 0, .long 0, .int 0, .int (-1), .int 0, .int (-1), .ref a_6, .ref a_7, .ref a_8, .ref a_9, .ref a_10, .ref a_11, .ref a_12, .ref a_13, .ref a_14, .ref a_15, .ref a_16, .ref a_17, .ref a_18, .int k_0, .int k_1, .int k_2, .int k_3, .int k_4, .int k_5, .ref a_19, .int k_6, .ref a_20])), (a_6, .inl (cy 1, 5, .inl n1)), (a_7, .inl (cy 1, 30, .inl n2)), (a_8, .inl (cy 1, 90, .inl (fun _ => 0))), (a_9, .inl (cy 1, 15, .inl n3)), (a_10, .inl (cy 1, 1050, .inl (fun _ => 0))), (a_11, .inl (cy 1, 30, .inl (fun _ => 0))), (a_12, .inl (cy 1, 240, .inl (fun _ => 0))), (a_13, .inl (cy 1, 450, .inl (fun _ => 0)))]) [0] [1, 2, 3, 4, 5, 6, 7, 8] (n := 9) (fun _ => rfl) (by decide +kernel) (by decide +kernel) rfl (fun _ => rfl) (wr := [(a_6, .inl (cy 1, 5, .inl n1)), (a_7, .inl (cy 1, 30, .inl n2)), (a_8, .inl (cy 1, 90, .inl (fun _ => 0))), (a_9, .inl (cy 1, 15, .inl n3)), (a_10, .inl (cy 1, 1050, .inl (fun _ => 0))), (a_11, .inl (cy 1, 30, .inl (fun _ => 0))), (a_12, .inl (cy 1, 240, .inl (fun _ => 0))), (a_13, .inl (cy 1, 450, .inl (fun _ => 0)))]) rfl (fun _ => rfl) (fun _ => rfl) ?_
  clear hP hD hS
  clear H locs
  intro _u H locs hw (hP : va_P G vwCl [(a_0, .inr (12, [.int 0, .ref a_1, .ref a_2, .ref a_3, .ref a_4, .ref a_5, .int 0, .int 0, .int 0, .int 0, .int 0, .long 0, .int 0, .int (-1), .int 0, .int (-1), .ref a_6, .ref a_7, .ref a_8, .ref a_9, .ref a_10, .ref a_11, .ref a_12, .ref a_13, .ref a_14, .ref a_15, .ref a_16, .ref a_17, .ref a_18, .int k_0, .int k_1, .int k_2, .int k_3, .int k_4, .int k_5, .ref a_19, .int k_6, .ref a_20])), (a_6, .inl (cy 1, 5, .inl n1)), (a_7, .inl (cy 1, 30, .inl n2)), (a_8, .inl (cy 1, 90, .inl (fun _ => 0))), (a_9, .inl (cy 1, 15, .inl n3)), (a_10, .inl (cy 1, 1050, .inl (fun _ => 0))), (a_11, .inl (cy 1, 30, .inl (fun _ => 0))), (a_12, .inl (cy 1, 240, .inl (fun _ => 0))), (a_13, .inl (cy 1, 450, .inl (fun _ => 0)))] H) (hD : va_D A [(a_0, .inr (12, [.int 0, .ref a_1, .ref a_2, .ref a_3, .ref a_4, .ref a_5, .int 0, .int 0, .int 0, .int 0, .int 0, .long 0, .int 0, .int (-1), .int 0, .int (-1), .ref a_6, .ref a_7, .ref a_8, .ref a_9, .ref a_10, .ref a_11, .ref a_12, .ref a_13, .ref a_14, .ref a_15, .ref a_16, .ref a_17, .ref a_18, .int k_0, .int k_1, .int k_2, .int k_3, .int k_4, .int k_5, .ref a_19, .int k_6, .ref a_20])), (a_6, .inl (cy 1, 5, .inl n1)), (a_7, .inl (cy 1, 30, .inl n2)), (a_8, .inl (cy 1, 90, .inl (fun _ => 0))), (a_9, .inl (cy 1, 15, .inl n3)), (a_10, .inl (cy 1, 1050, .inl (fun _ => 0))), (a_11, .inl (cy 1, 30, .inl (fun _ => 0))), (a_12, .inl (cy 1, 240, .inl (fun _ => 0))), (a_13, .inl (cy 1, 450, .inl (fun _ => 0)))]) hS
  refine lv_aload_n hx hb dX12_book_13 rfl (lv_at hl 0 rfl) ?_
  refine mm_finir (va_runV (As := []) (rest := []) ⟨hx, hb, hml, hown, hts⟩ (K100_X12_isGood l G cy H.size a_0 0 a_1 a_2 a_3 a_4 a_5 0 0 0 0 0 0 (-1) 0 (-1) a_6 a_7 a_8 a_9 a_10 a_11 a_12 a_13 a_14 a_15 a_16 a_17 a_18 k_0 k_1 k_2 k_3 k_4 k_5 a_19 k_6 a_20 ) (cwV 0 hts (mm_gV mm_w467 mm_w468 mm_w469 mm_w5 mm_w470) rfl rfl rfl hd_X12_isGood ⟨by rw [hRf]; exact Nat.le_of_ble_eq_true rfl, by rw [hRl]; exact Nat.le_of_ble_eq_true rfl⟩) (mm_preV hK hP hD [0] rfl rfl 0 rfl rfl rfl) rfl rfl hl.1 rfl (lv_room (Nat.le_of_ble_eq_true rfl)) dX12_book_14 ⟨by rw [hRc]; exact Nat.le_of_ble_eq_true rfl, by rw [hRs]; exact Nat.le_of_ble_eq_true rfl⟩) hP hD hS hA [0] rfl (fun _ => rfl) ?_
  clear hP hD hS
  clear H locs
  intro v30 _u H locs hw hP hD hS
  subst hw
  refine lv_if_eq (tgt := 104) hx hb dX12_book_17 (by decide) (fun c31 => ?_) (fun c31 => ?_)
  · exact mm_eqN c31.symm mm_k0 mm_k1 (by decide)
  · refine lv_aload_n hx hb dX12_book_20 rfl (lv_at hl 0 rfl) ?_
    refine va_get (D := G) (ci := 12) (v := .int 0) (C := RX12) (T := TX12) (N := 38) hx hb hts (mm_i inlX12) hown hK.1 hP 0 rfl rfl 8 (by decide) (mm_h hts mm_w432) (fun _ h9 => h9) rfl dX12_book_21 ?_
    refine lv_if_eq (tgt := 104) hx hb dX12_book_24 (by decide) (fun c32 => ?_) (fun c32 => ?_)
    · refine lv_aload_n hx hb dX12_book_104 rfl (lv_at hl 0 rfl) ?_
      refine mm_finvr (va_runV (As := []) (rest := []) ⟨hx, hb, hml, hown, hts⟩ (K101_X12_isOver l G cy H.size a_0 0 a_1 a_2 a_3 a_4 a_5 0 0 0 0 0 (-1) a_6 a_7 a_8 a_9 a_10 a_11 a_12 a_13 a_14 a_15 a_16 a_17 a_18 k_0 k_1 k_2 k_3 k_4 k_5 a_19 k_6 a_20 ) (cwV 0 hts (mm_gV mm_w548 mm_w549 mm_w550 mm_w5 mm_w551) rfl rfl rfl hd_X12_isOver ⟨by rw [hRf]; exact Nat.le_of_ble_eq_true rfl, by rw [hRl]; exact Nat.le_of_ble_eq_true rfl⟩) (mm_preV hK hP hD [0] rfl rfl 0 rfl rfl rfl) rfl rfl hl.1 rfl (lv_room (Nat.le_of_ble_eq_true rfl)) dX12_book_105 ⟨by rw [hRc]; exact Nat.le_of_ble_eq_true rfl, by rw [hRs]; exact Nat.le_of_ble_eq_true rfl⟩) hP hD hS hA [0] rfl (fun _ => rfl) ?_
      clear hP hD hS
      clear H locs
      intro _u H locs hw hP hD hS
      refine lv_aload_n hx hb dX12_book_108 rfl (lv_at hl 0 rfl) ?_
      refine va_get (D := G) (ci := 12) (v := .int 0) (C := RX12) (T := TX12) (N := 38) hx hb hts (mm_i inlX12) hown hK.1 hP 0 rfl rfl 12 (by decide) (mm_h hts mm_w436) (fun _ h9 => h9) rfl dX12_book_109 ?_
      refine lv_if_eq (tgt := 118) hx hb dX12_book_112 (by decide) (fun c33 => ?_) (fun c33 => ?_)
      · refine lv_aload_n hx hb dX12_book_118 rfl (lv_at hl 0 rfl) ?_
        refine lv_iconst (v := 4) hx hb dX12_book_119 (by decide) ?_
        refine lv_iconst (v := 0) hx hb dX12_book_120 (by decide) ?_
        refine mm_finv (va_runV (As := [.int 4, .int 0]) (rest := []) ⟨hx, hb, hml, hown, hts⟩ (K102_X12_copyBook l G cy H.size a_0 0 a_1 a_2 a_3 a_4 a_5 0 0 0 0 0 0 0 (-1) 0 (-1) a_6 a_7 a_8 a_9 a_10 a_11 a_12 a_13 a_14 a_15 a_16 a_17 a_18 k_0 k_1 k_2 k_3 k_4 k_5 a_19 k_6 a_20 n1 n2 n3 w4 w5 w6) (cwV 2 hts (mm_gV mm_w553 mm_w554 mm_w555 mm_w5 mm_w556) rfl rfl rfl hd_X12_copyBook ⟨by rw [hRf]; exact Nat.le_of_ble_eq_true rfl, by rw [hRl]; exact Nat.le_of_ble_eq_true rfl⟩) (mm_preV hK hP hD [0, 1, 2, 3, 4, 5, 6, 7, 8] rfl rfl 0 rfl rfl rfl) rfl rfl hl.1 rfl (lv_room (Nat.le_of_ble_eq_true rfl)) dX12_book_121 ⟨by rw [hRc]; exact Nat.le_of_ble_eq_true rfl, by rw [hRs]; exact Nat.le_of_ble_eq_true rfl⟩) hP hD hS hA (fun u : (Nat → Int32) × (Nat → Int32) × (Nat → Int32) × (Nat → Int32) × (Nat → Int32) × (Nat → Int32) × (Nat → Int32) × (Nat → Int32) => [(a_0, .inr (12, [.int 0, .ref a_1, .ref a_2, .ref a_3, .ref a_4, .ref a_5, .int 0, .int 0, .int 0, .int 0, .int 0, .long 0, .int 0, .int (-1), .int 0, .int (-1), .ref a_6, .ref a_7, .ref a_8, .ref a_9, .ref a_10, .ref a_11, .ref a_12, .ref a_13, .ref a_14, .ref a_15, .ref a_16, .ref a_17, .ref a_18, .int k_0, .int k_1, .int k_2, .int k_3, .int k_4, .int k_5, .ref a_19, .int k_6, .ref a_20])), (a_6, .inl (cy 1, 5, .inl u.1)), (a_7, .inl (cy 1, 30, .inl u.2.1)), (a_8, .inl (cy 1, 90, .inl u.2.2.1)), (a_9, .inl (cy 1, 15, .inl u.2.2.2.1)), (a_10, .inl (cy 1, 1050, .inl u.2.2.2.2.1)), (a_11, .inl (cy 1, 30, .inl u.2.2.2.2.2.1)), (a_12, .inl (cy 1, 240, .inl u.2.2.2.2.2.2.1)), (a_13, .inl (cy 1, 450, .inl u.2.2.2.2.2.2.2))]) [0, 1, 2, 3, 4, 5, 6, 7, 8] [] (n := 9) (fun _ => rfl) (by decide +kernel) (by decide +kernel) rfl (fun _ => rfl) (wr := []) rfl (fun _ => rfl) (fun _ => rfl) ?_
        clear hP hD hS
        clear H locs
        intro u
        obtain ⟨n34, n35, n36, n37, n38, n39, n40, n41⟩ := u
        intro H locs hw (hP : va_P G vwCl [(a_0, .inr (12, [.int 0, .ref a_1, .ref a_2, .ref a_3, .ref a_4, .ref a_5, .int 0, .int 0, .int 0, .int 0, .int 0, .long 0, .int 0, .int (-1), .int 0, .int (-1), .ref a_6, .ref a_7, .ref a_8, .ref a_9, .ref a_10, .ref a_11, .ref a_12, .ref a_13, .ref a_14, .ref a_15, .ref a_16, .ref a_17, .ref a_18, .int k_0, .int k_1, .int k_2, .int k_3, .int k_4, .int k_5, .ref a_19, .int k_6, .ref a_20])), (a_6, .inl (cy 1, 5, .inl n34)), (a_7, .inl (cy 1, 30, .inl n35)), (a_8, .inl (cy 1, 90, .inl n36)), (a_9, .inl (cy 1, 15, .inl n37)), (a_10, .inl (cy 1, 1050, .inl n38)), (a_11, .inl (cy 1, 30, .inl n39)), (a_12, .inl (cy 1, 240, .inl n40)), (a_13, .inl (cy 1, 450, .inl n41))] H) (hD : va_D A [(a_0, .inr (12, [.int 0, .ref a_1, .ref a_2, .ref a_3, .ref a_4, .ref a_5, .int 0, .int 0, .int 0, .int 0, .int 0, .long 0, .int 0, .int (-1), .int 0, .int (-1), .ref a_6, .ref a_7, .ref a_8, .ref a_9, .ref a_10, .ref a_11, .ref a_12, .ref a_13, .ref a_14, .ref a_15, .ref a_16, .ref a_17, .ref a_18, .int k_0, .int k_1, .int k_2, .int k_3, .int k_4, .int k_5, .ref a_19, .int k_6, .ref a_20])), (a_6, .inl (cy 1, 5, .inl n34)), (a_7, .inl (cy 1, 30, .inl n35)), (a_8, .inl (cy 1, 90, .inl n36)), (a_9, .inl (cy 1, 15, .inl n37)), (a_10, .inl (cy 1, 1050, .inl n38)), (a_11, .inl (cy 1, 30, .inl n39)), (a_12, .inl (cy 1, 240, .inl n40)), (a_13, .inl (cy 1, 450, .inl n41))]) hS
        obtain ⟨w42, w43, w44, w45, w46, w47, w48, w49⟩ := hw
        refine lv_aload_n hx hb dX12_book_124 rfl (lv_at hl 0 rfl) ?_
        refine va_get (D := G) (ci := 12) (v := .ref a_6) (C := RX12) (T := TX12) (N := 38) hx hb hts (mm_i inlX12) hown hK.1 hP 0 rfl rfl 16 (by decide) (mm_h hts mm_w148) (fun _ h9 => h9) rfl dX12_book_125 ?_
        refine lv_iconst (v := 0) hx hb dX12_book_128 (by decide) ?_
        refine va_iald hx hb hK.1 hP 1 1 rfl rfl (mm_in mm_k0 (by decide)) dX12_book_129 ?_
        refine lv_topi (fun v50 ev50 => ?_)
        have rv50 : mm_rg v50 0 0 := mm_eqv ev50 (w42 _)
        subst hAe
        rw [hQ]
        exact W.iret (v := v50) hx hb hr (fun t ht hW => ⟨⟨v50, (n34, n35, n36, n37, n38, n39, n40, n41), rfl, ⟨w42, w43, w44, w45, w46, w47, w48, w49, (mm_eqC mm_k0 rv50 (by decide))⟩, by rw [ht]; exact hP, hK.warm hW, hD⟩, hS.F ht⟩) hS.2.2 dX12_book_130
      · have q51 := mm_neL (lo := 1) (mm_ne c33) mm_k0 mm_k0 (by decide) (by decide)
        exact mm_no q51 (by decide)
    · have q52 := mm_neL (lo := 1) (mm_ne c32) mm_k0 mm_k0 (by decide) (by decide)
      exact mm_no q52 (by decide)

set_option maxHeartbeats 4000000 in
set_option maxRecDepth 100000 in
theorem K103_X11_fault (l : Launch) (G : va_G) (cy : Nat → ClassId) (sz : Nat) (a_0 : Nat) (i_0 : Int32) (a_1 : Nat) (a_2 : Nat) (a_3 : Nat) (a_4 : Nat) (a_5 : Nat) (a_6 : Nat) (a_7 : Nat) (a_8 : Nat) (a_9 : Nat) (a_10 : Nat) (a_11 : Nat) (a_13 : Nat) (k_0 : Int32) (k_1 : Int32) (k_2 : Int32) (k_3 : Int32)   : mm_CI l yX11_fault (mm_ws yX11_fault cX11_fault 2 (some .int)) ({ frames := 0, cells := 0, slots := 0, locals := 0 } : Room) G cy sz [(a_0, .inr (11, [.ref a_1, .ref a_2, .ref a_3, .ref a_4, .ref a_5, .ref a_6, .ref a_7, .ref a_8, .ref a_9, .ref a_10, .ref a_11])), (a_2, .inr (7, [.ref a_1, .ref a_13, .int 0, .int (-1), .int k_0, .int k_1, .int k_2, .int k_3]))] [.ref a_0, .int i_0] (fun u : Unit => [(a_0, .inr (11, [.ref a_1, .ref a_2, .ref a_3, .ref a_4, .ref a_5, .ref a_6, .ref a_7, .ref a_8, .ref a_9, .ref a_10, .ref a_11])), (a_2, .inr (7, [.ref a_1, .ref a_13, .int 0, .int (-1), .int k_0, .int k_1, .int k_2, .int k_3]))]) (fun (r : Int32) (u : Unit) => (((-1) = r ∧ (i_0 : Int32).toInt ≠ (0 : Int32).toInt ∧ (i_0 : Int32).toInt ≠ (1 : Int32).toInt) ∨ ((-1) = r ∧ mm_rg i_0 1 1) ∨ (0 = r ∧ mm_rg i_0 0 0))) 0 0 := by
  refine mm_begin (lv := [(0, .ref a_0), (1, .int i_0)]) (by decide) (Nat.le_of_ble_eq_true rfl) rfl ?_
  intro p e s m below meth c A ls R args Q H locs hRe hQ hAe hx hb hr hlocks hml hown hnm hts hsz hA hS hP hK hD hl
  have hRf : R.frames = 0 := by rw [hRe]
  have hRl : R.locals = 0 := by rw [hRe]
  have hRc : R.cells = 0 := by rw [hRe]
  have hRs : R.slots = 0 := by rw [hRe]
  refine lv_iload_n hx hb dX11_fault_0 rfl (lv_at hl 1 rfl) ?_
  refine lv_if_ne (tgt := 12) hx hb dX11_fault_1 (by decide) (fun c1 => ?_) (fun c1 => ?_)
  · refine lv_iload_n hx hb dX11_fault_12 rfl (lv_at hl 1 rfl) ?_
    refine lv_iconst (v := 1) hx hb dX11_fault_13 (by decide) ?_
    refine lv_icmp_ne (tgt := 27) hx hb dX11_fault_14 (by decide) (fun c2 => ?_) (fun c2 => ?_)
    · refine lv_iconst (v := (-1)) hx hb dX11_fault_27 (by decide) ?_
      subst hAe
      rw [hQ]
      exact W.iret (v := (-1)) hx hb hr (fun t ht hW => ⟨⟨(-1), (), rfl, (Or.inl ⟨rfl, (mm_ne c1), (mm_ne c2)⟩), by rw [ht]; exact hP, hK.warm hW, hD⟩, hS.F ht⟩) hS.2.2 dX11_fault_28
    · have q3 := mm_eqI (lo := 1) (hi := 1) c2 (mm_top i_0) mm_k1 (by decide)
      refine lv_aload_n hx hb dX11_fault_17 rfl (lv_at hl 0 rfl) ?_
      refine va_get (D := G) (ci := 11) (v := .ref a_2) (C := RX11) (T := TX11) (N := 11) hx hb hts (mm_i inlX11) hown hK.1 hP 0 rfl rfl 1 (by decide) (mm_h hts mm_w20) (fun _ h9 => h9) rfl dX11_fault_18 ?_
      refine va_get (D := G) (ci := 7) (v := .int (-1)) (C := RX7) (T := TX7) (N := 8) hx hb hts (mm_i inlX7) hown hK.1 hP 1 rfl rfl 3 (by decide) (mm_h hts mm_w565) (fun _ h9 => h9) rfl dX11_fault_21 ?_
      refine lv_goto (tgt := 28) hx hb dX11_fault_24 (by decide) ?_
      subst hAe
      rw [hQ]
      exact W.iret (v := (-1)) hx hb hr (fun t ht hW => ⟨⟨(-1), (), rfl, (Or.inr (Or.inl ⟨rfl, q3⟩)), by rw [ht]; exact hP, hK.warm hW, hD⟩, hS.F ht⟩) hS.2.2 dX11_fault_28
  · have q4 := mm_eqI (lo := 0) (hi := 0) c1 (mm_top i_0) mm_k0 (by decide)
    refine lv_aload_n hx hb dX11_fault_4 rfl (lv_at hl 0 rfl) ?_
    refine va_get (D := G) (ci := 11) (v := .ref a_2) (C := RX11) (T := TX11) (N := 11) hx hb hts (mm_i inlX11) hown hK.1 hP 0 rfl rfl 1 (by decide) (mm_h hts mm_w20) (fun _ h9 => h9) rfl dX11_fault_5 ?_
    refine va_get (D := G) (ci := 7) (v := .int 0) (C := RX7) (T := TX7) (N := 8) hx hb hts (mm_i inlX7) hown hK.1 hP 1 rfl rfl 2 (by decide) (mm_h hts mm_w564) (fun _ h9 => h9) rfl dX11_fault_8 ?_
    subst hAe
    rw [hQ]
    exact W.iret (v := 0) hx hb hr (fun t ht hW => ⟨⟨0, (), rfl, (Or.inr (Or.inr ⟨rfl, q4⟩)), by rw [ht]; exact hP, hK.warm hW, hD⟩, hS.F ht⟩) hS.2.2 dX11_fault_11

set_option maxHeartbeats 4000000 in
set_option maxRecDepth 100000 in
theorem K104_X12_fault (l : Launch) (G : va_G) (cy : Nat → ClassId) (sz : Nat) (a_0 : Nat) (i_0 : Int32) (a_1 : Nat) (a_2 : Nat) (a_3 : Nat) (a_4 : Nat) (a_5 : Nat) (k_0 : Int32) (k_1 : Int32) (k_2 : Int32) (k_3 : Int32) (k_4 : Int32) (k_5 : Int64) (k_6 : Int32) (k_7 : Int32) (a_6 : Nat) (a_7 : Nat) (a_8 : Nat) (a_9 : Nat) (a_10 : Nat) (a_11 : Nat) (a_12 : Nat) (a_13 : Nat) (a_14 : Nat) (a_15 : Nat) (a_16 : Nat) (a_17 : Nat) (a_18 : Nat) (k_8 : Int32) (k_9 : Int32) (k_10 : Int32) (k_11 : Int32) (k_12 : Int32) (k_13 : Int32) (a_19 : Nat) (k_14 : Int32) (a_20 : Nat)   : mm_CI l yX12_fault (mm_ws yX12_fault cX12_fault 2 (some .int)) ({ frames := 0, cells := 0, slots := 0, locals := 0 } : Room) G cy sz [(a_0, .inr (12, [.int 0, .ref a_1, .ref a_2, .ref a_3, .ref a_4, .ref a_5, .int k_0, .int k_1, .int k_2, .int k_3, .int k_4, .long k_5, .int k_6, .int k_7, .int 0, .int (-1), .ref a_6, .ref a_7, .ref a_8, .ref a_9, .ref a_10, .ref a_11, .ref a_12, .ref a_13, .ref a_14, .ref a_15, .ref a_16, .ref a_17, .ref a_18, .int k_8, .int k_9, .int k_10, .int k_11, .int k_12, .int k_13, .ref a_19, .int k_14, .ref a_20]))] [.ref a_0, .int i_0] (fun u : Unit => [(a_0, .inr (12, [.int 0, .ref a_1, .ref a_2, .ref a_3, .ref a_4, .ref a_5, .int k_0, .int k_1, .int k_2, .int k_3, .int k_4, .long k_5, .int k_6, .int k_7, .int 0, .int (-1), .ref a_6, .ref a_7, .ref a_8, .ref a_9, .ref a_10, .ref a_11, .ref a_12, .ref a_13, .ref a_14, .ref a_15, .ref a_16, .ref a_17, .ref a_18, .int k_8, .int k_9, .int k_10, .int k_11, .int k_12, .int k_13, .ref a_19, .int k_14, .ref a_20]))]) (fun (r : Int32) (u : Unit) => (((-1) = r ∧ (i_0 : Int32).toInt ≠ (0 : Int32).toInt ∧ (i_0 : Int32).toInt ≠ (1 : Int32).toInt) ∨ ((-1) = r ∧ mm_rg i_0 1 1) ∨ (0 = r ∧ mm_rg i_0 0 0))) 0 0 := by
  refine mm_begin (lv := [(0, .ref a_0), (1, .int i_0)]) (by decide) (Nat.le_of_ble_eq_true rfl) rfl ?_
  intro p e s m below meth c A ls R args Q H locs hRe hQ hAe hx hb hr hlocks hml hown hnm hts hsz hA hS hP hK hD hl
  have hRf : R.frames = 0 := by rw [hRe]
  have hRl : R.locals = 0 := by rw [hRe]
  have hRc : R.cells = 0 := by rw [hRe]
  have hRs : R.slots = 0 := by rw [hRe]
  refine lv_aload_n hx hb dX12_fault_0 rfl (lv_at hl 0 rfl) ?_
  refine lv_iconst (v := 0) hx hb dX12_fault_1 (by decide) ?_
  refine va_put (D := G) (ci := 12) (v := .int 0) (ty := tyX12 0) (C := RX12) (T := TX12) (N := 38) hx hb hts (mm_i inlX12) tyX12 tyX12_ok nmX12 hown hK.1 hP hD hS 0 rfl rfl 0 (by decide) (mm_h hts mm_w177) (fun _ h9 => h9) rfl (tyX12_ok 0 (by decide)) rfl rfl (Nat.le_of_ble_eq_true rfl) dX12_fault_2 ?_
  clear hP hD hS
  clear H locs
  intro H locs (hP : va_P G vwCl [(a_0, .inr (12, [.int 0, .ref a_1, .ref a_2, .ref a_3, .ref a_4, .ref a_5, .int k_0, .int k_1, .int k_2, .int k_3, .int k_4, .long k_5, .int k_6, .int k_7, .int 0, .int (-1), .ref a_6, .ref a_7, .ref a_8, .ref a_9, .ref a_10, .ref a_11, .ref a_12, .ref a_13, .ref a_14, .ref a_15, .ref a_16, .ref a_17, .ref a_18, .int k_8, .int k_9, .int k_10, .int k_11, .int k_12, .int k_13, .ref a_19, .int k_14, .ref a_20]))] H) (hD : va_D A [(a_0, .inr (12, [.int 0, .ref a_1, .ref a_2, .ref a_3, .ref a_4, .ref a_5, .int k_0, .int k_1, .int k_2, .int k_3, .int k_4, .long k_5, .int k_6, .int k_7, .int 0, .int (-1), .ref a_6, .ref a_7, .ref a_8, .ref a_9, .ref a_10, .ref a_11, .ref a_12, .ref a_13, .ref a_14, .ref a_15, .ref a_16, .ref a_17, .ref a_18, .int k_8, .int k_9, .int k_10, .int k_11, .int k_12, .int k_13, .ref a_19, .int k_14, .ref a_20]))]) hS
  refine lv_iload_n hx hb dX12_fault_5 rfl (lv_at hl 1 rfl) ?_
  refine lv_if_ne (tgt := 16) hx hb dX12_fault_6 (by decide) (fun c1 => ?_) (fun c1 => ?_)
  · refine lv_iload_n hx hb dX12_fault_16 rfl (lv_at hl 1 rfl) ?_
    refine lv_iconst (v := 1) hx hb dX12_fault_17 (by decide) ?_
    refine lv_icmp_ne (tgt := 28) hx hb dX12_fault_18 (by decide) (fun c2 => ?_) (fun c2 => ?_)
    · refine lv_iconst (v := (-1)) hx hb dX12_fault_28 (by decide) ?_
      subst hAe
      rw [hQ]
      exact W.iret (v := (-1)) hx hb hr (fun t ht hW => ⟨⟨(-1), (), rfl, (Or.inl ⟨rfl, (mm_ne c1), (mm_ne c2)⟩), by rw [ht]; exact hP, hK.warm hW, hD⟩, hS.F ht⟩) hS.2.2 dX12_fault_29
    · have q3 := mm_eqI (lo := 1) (hi := 1) c2 (mm_top i_0) mm_k1 (by decide)
      refine lv_aload_n hx hb dX12_fault_21 rfl (lv_at hl 0 rfl) ?_
      refine va_get (D := G) (ci := 12) (v := .int (-1)) (C := RX12) (T := TX12) (N := 38) hx hb hts (mm_i inlX12) hown hK.1 hP 0 rfl rfl 15 (by decide) (mm_h hts mm_w147) (fun _ h9 => h9) rfl dX12_fault_22 ?_
      refine lv_goto (tgt := 29) hx hb dX12_fault_25 (by decide) ?_
      subst hAe
      rw [hQ]
      exact W.iret (v := (-1)) hx hb hr (fun t ht hW => ⟨⟨(-1), (), rfl, (Or.inr (Or.inl ⟨rfl, q3⟩)), by rw [ht]; exact hP, hK.warm hW, hD⟩, hS.F ht⟩) hS.2.2 dX12_fault_29
  · have q4 := mm_eqI (lo := 0) (hi := 0) c1 (mm_top i_0) mm_k0 (by decide)
    refine lv_aload_n hx hb dX12_fault_9 rfl (lv_at hl 0 rfl) ?_
    refine va_get (D := G) (ci := 12) (v := .int 0) (C := RX12) (T := TX12) (N := 38) hx hb hts (mm_i inlX12) hown hK.1 hP 0 rfl rfl 14 (by decide) (mm_h hts mm_w552) (fun _ h9 => h9) rfl dX12_fault_10 ?_
    refine lv_goto (tgt := 29) hx hb dX12_fault_13 (by decide) ?_
    subst hAe
    rw [hQ]
    exact W.iret (v := 0) hx hb hr (fun t ht hW => ⟨⟨0, (), rfl, (Or.inr (Or.inr ⟨rfl, q4⟩)), by rw [ht]; exact hP, hK.warm hW, hD⟩, hS.F ht⟩) hS.2.2 dX12_fault_29

set_option maxHeartbeats 4000000 in
set_option maxRecDepth 100000 in
theorem K105_X11_isSense (l : Launch) (G : va_G) (cy : Nat → ClassId) (sz : Nat) (a_0 : Nat) (i_0 : Int32) (a_1 : Nat) (a_2 : Nat) (a_3 : Nat) (a_4 : Nat) (a_5 : Nat) (a_6 : Nat) (a_7 : Nat) (a_8 : Nat) (a_9 : Nat) (a_10 : Nat) (a_11 : Nat) (a_24 : Nat) (a_25 : Nat) (k_0 : Int32) (k_1 : Int32) (k_2 : Int32) (k_3 : Int32) (k_4 : Int32) (k_5 : Int32) (k_6 : Int32) (a_26 : Nat) (a_27 : Nat) (a_28 : Nat) (a_29 : Nat) (a_30 : Nat) (a_31 : Nat) (a_32 : Nat) (a_33 : Nat) (a_34 : Nat) (a_35 : Nat)   : mm_CI l yX11_isSense (mm_ws yX11_isSense cX11_isSense 2 (some .boolean)) ({ frames := 0, cells := 0, slots := 0, locals := 0 } : Room) G cy sz [(a_0, .inr (11, [.ref a_1, .ref a_2, .ref a_3, .ref a_4, .ref a_5, .ref a_6, .ref a_7, .ref a_8, .ref a_9, .ref a_10, .ref a_11])), (a_3, .inr (10, [.ref a_24, .ref a_25])), (a_24, .inr (0, [.int k_0, .int k_1, .int k_2, .int k_3, .int 0, .int k_4, .int k_5, .int k_6, .ref a_26, .ref a_27, .ref a_28, .ref a_29, .ref a_30, .ref a_31, .ref a_32, .ref a_33, .ref a_34, .ref a_35]))] [.ref a_0, .int i_0] (fun u : Unit => [(a_0, .inr (11, [.ref a_1, .ref a_2, .ref a_3, .ref a_4, .ref a_5, .ref a_6, .ref a_7, .ref a_8, .ref a_9, .ref a_10, .ref a_11])), (a_3, .inr (10, [.ref a_24, .ref a_25])), (a_24, .inr (0, [.int k_0, .int k_1, .int k_2, .int k_3, .int 0, .int k_4, .int k_5, .int k_6, .ref a_26, .ref a_27, .ref a_28, .ref a_29, .ref a_30, .ref a_31, .ref a_32, .ref a_33, .ref a_34, .ref a_35]))]) (fun (r : Int32) (u : Unit) => 0 = r) 0 0 := by
  refine mm_begin (lv := [(0, .ref a_0), (1, .int i_0)]) (by decide) (Nat.le_of_ble_eq_true rfl) rfl ?_
  intro p e s m below meth c A ls R args Q H locs hRe hQ hAe hx hb hr hlocks hml hown hnm hts hsz hA hS hP hK hD hl
  have hRf : R.frames = 0 := by rw [hRe]
  have hRl : R.locals = 0 := by rw [hRe]
  have hRc : R.cells = 0 := by rw [hRe]
  have hRs : R.slots = 0 := by rw [hRe]
  refine lv_iload_n hx hb dX11_isSense_0 rfl (lv_at hl 1 rfl) ?_
  refine lv_if_lt (tgt := 22) hx hb dX11_isSense_1 (by decide) (fun c1 => ?_) (fun c1 => ?_)
  · have q2 := mm_ltL (h := (-1)) (mm_lt c1) (mm_top i_0) mm_k0 (by decide)
    refine lv_iconst (v := 0) hx hb dX11_isSense_22 (by decide) ?_
    subst hAe
    rw [hQ]
    exact W.zret (v := 0) hx hb hr rfl (fun t ht hW => ⟨⟨0, (), rfl, rfl, by rw [ht]; exact hP, hK.warm hW, hD⟩, hS.F ht⟩) hS.2.2 dX11_isSense_23
  · have q3 := mm_leR (mm_nlt c1) mm_k0 (mm_top i_0)
    refine lv_iload_n hx hb dX11_isSense_4 rfl (lv_at hl 1 rfl) ?_
    refine lv_aload_n hx hb dX11_isSense_5 rfl (lv_at hl 0 rfl) ?_
    refine va_get (D := G) (ci := 11) (v := .ref a_3) (C := RX11) (T := TX11) (N := 11) hx hb hts (mm_i inlX11) hown hK.1 hP 0 rfl rfl 2 (by decide) (mm_h hts mm_w24) (fun _ h9 => h9) rfl dX11_isSense_6 ?_
    refine va_get (D := G) (ci := 10) (v := .ref a_24) (C := RX10) (T := TX10) (N := 2) hx hb hts (mm_i inlX10) hown hK.1 hP 1 rfl rfl 0 (by decide) (mm_h hts mm_w199) (fun _ h9 => h9) rfl dX11_isSense_9 ?_
    refine va_get (D := G) (ci := 0) (v := .int 0) (C := RX0) (T := TX0) (N := 18) hx hb hts (mm_i inlX0) hown hK.1 hP 2 rfl rfl 4 (by decide) (mm_h hts mm_w580) (fun _ h9 => h9) rfl dX11_isSense_12 ?_
    refine lv_icmp_ge (tgt := 22) hx hb dX11_isSense_15 (by decide) (fun c4 => ?_) (fun c4 => ?_)
    · refine lv_iconst (v := 0) hx hb dX11_isSense_22 (by decide) ?_
      subst hAe
      rw [hQ]
      exact W.zret (v := 0) hx hb hr rfl (fun t ht hW => ⟨⟨0, (), rfl, rfl, by rw [ht]; exact hP, hK.warm hW, hD⟩, hS.F ht⟩) hS.2.2 dX11_isSense_23
    · have q5 := mm_ltL (h := (-1)) (mm_nle c4) q3 mm_k0 (by decide)
      exact mm_no q5 (by decide)

set_option maxHeartbeats 4000000 in
set_option maxRecDepth 100000 in
theorem K107_X11_isSense (l : Launch) (G : va_G) (cy : Nat → ClassId) (sz : Nat) (a_0 : Nat) (i_0 : Int32) (a_1 : Nat) (a_2 : Nat) (a_3 : Nat) (a_4 : Nat) (a_5 : Nat) (a_6 : Nat) (a_7 : Nat) (a_8 : Nat) (a_9 : Nat) (a_10 : Nat) (a_11 : Nat) (a_12 : Nat) (a_13 : Nat) (i_1 : Int32) (i_2 : Int32) (i_3 : Int32) (i_4 : Int32) (i_5 : Int32) (i_6 : Int32) (i_7 : Int32) (a_14 : Nat) (a_15 : Nat) (a_16 : Nat) (a_17 : Nat) (a_18 : Nat) (a_19 : Nat) (a_20 : Nat) (a_21 : Nat) (a_22 : Nat) (a_23 : Nat)   : mm_CI l yX11_isSense (mm_ws yX11_isSense cX11_isSense 2 (some .boolean)) ({ frames := 0, cells := 0, slots := 0, locals := 0 } : Room) G cy sz [(a_0, .inr (11, [.ref a_1, .ref a_2, .ref a_3, .ref a_4, .ref a_5, .ref a_6, .ref a_7, .ref a_8, .ref a_9, .ref a_10, .ref a_11])), (a_3, .inr (10, [.ref a_12, .ref a_13])), (a_12, .inr (0, [.int i_1, .int i_2, .int i_3, .int i_4, .int 0, .int i_5, .int i_6, .int i_7, .ref a_14, .ref a_15, .ref a_16, .ref a_17, .ref a_18, .ref a_19, .ref a_20, .ref a_21, .ref a_22, .ref a_23]))] [.ref a_0, .int i_0] (fun u : Unit => [(a_0, .inr (11, [.ref a_1, .ref a_2, .ref a_3, .ref a_4, .ref a_5, .ref a_6, .ref a_7, .ref a_8, .ref a_9, .ref a_10, .ref a_11])), (a_3, .inr (10, [.ref a_12, .ref a_13])), (a_12, .inr (0, [.int i_1, .int i_2, .int i_3, .int i_4, .int 0, .int i_5, .int i_6, .int i_7, .ref a_14, .ref a_15, .ref a_16, .ref a_17, .ref a_18, .ref a_19, .ref a_20, .ref a_21, .ref a_22, .ref a_23]))]) (fun (r : Int32) (u : Unit) => 0 = r) 0 0 := by
  refine mm_begin (lv := [(0, .ref a_0), (1, .int i_0)]) (by decide) (Nat.le_of_ble_eq_true rfl) rfl ?_
  intro p e s m below meth c A ls R args Q H locs hRe hQ hAe hx hb hr hlocks hml hown hnm hts hsz hA hS hP hK hD hl
  have hRf : R.frames = 0 := by rw [hRe]
  have hRl : R.locals = 0 := by rw [hRe]
  have hRc : R.cells = 0 := by rw [hRe]
  have hRs : R.slots = 0 := by rw [hRe]
  refine lv_iload_n hx hb dX11_isSense_0 rfl (lv_at hl 1 rfl) ?_
  refine lv_if_lt (tgt := 22) hx hb dX11_isSense_1 (by decide) (fun c1 => ?_) (fun c1 => ?_)
  · have q2 := mm_ltL (h := (-1)) (mm_lt c1) (mm_top i_0) mm_k0 (by decide)
    refine lv_iconst (v := 0) hx hb dX11_isSense_22 (by decide) ?_
    subst hAe
    rw [hQ]
    exact W.zret (v := 0) hx hb hr rfl (fun t ht hW => ⟨⟨0, (), rfl, rfl, by rw [ht]; exact hP, hK.warm hW, hD⟩, hS.F ht⟩) hS.2.2 dX11_isSense_23
  · have q3 := mm_leR (mm_nlt c1) mm_k0 (mm_top i_0)
    refine lv_iload_n hx hb dX11_isSense_4 rfl (lv_at hl 1 rfl) ?_
    refine lv_aload_n hx hb dX11_isSense_5 rfl (lv_at hl 0 rfl) ?_
    refine va_get (D := G) (ci := 11) (v := .ref a_3) (C := RX11) (T := TX11) (N := 11) hx hb hts (mm_i inlX11) hown hK.1 hP 0 rfl rfl 2 (by decide) (mm_h hts mm_w24) (fun _ h9 => h9) rfl dX11_isSense_6 ?_
    refine va_get (D := G) (ci := 10) (v := .ref a_12) (C := RX10) (T := TX10) (N := 2) hx hb hts (mm_i inlX10) hown hK.1 hP 1 rfl rfl 0 (by decide) (mm_h hts mm_w199) (fun _ h9 => h9) rfl dX11_isSense_9 ?_
    refine va_get (D := G) (ci := 0) (v := .int 0) (C := RX0) (T := TX0) (N := 18) hx hb hts (mm_i inlX0) hown hK.1 hP 2 rfl rfl 4 (by decide) (mm_h hts mm_w580) (fun _ h9 => h9) rfl dX11_isSense_12 ?_
    refine lv_icmp_ge (tgt := 22) hx hb dX11_isSense_15 (by decide) (fun c4 => ?_) (fun c4 => ?_)
    · refine lv_iconst (v := 0) hx hb dX11_isSense_22 (by decide) ?_
      subst hAe
      rw [hQ]
      exact W.zret (v := 0) hx hb hr rfl (fun t ht hW => ⟨⟨0, (), rfl, rfl, by rw [ht]; exact hP, hK.warm hW, hD⟩, hS.F ht⟩) hS.2.2 dX11_isSense_23
    · have q5 := mm_ltL (h := (-1)) (mm_nle c4) q3 mm_k0 (by decide)
      exact mm_no q5 (by decide)

set_option maxHeartbeats 4000000 in
set_option maxRecDepth 100000 in
theorem K106_X11_sense (l : Launch) (G : va_G) (cy : Nat → ClassId) (sz : Nat) (a_0 : Nat) (i_0 : Int32) (i_1 : Int32) (a_1 : Nat) (a_2 : Nat) (a_3 : Nat) (a_4 : Nat) (a_5 : Nat) (a_6 : Nat) (a_7 : Nat) (a_8 : Nat) (a_9 : Nat) (a_10 : Nat) (a_11 : Nat) (a_24 : Nat) (a_25 : Nat) (k_0 : Int32) (k_1 : Int32) (k_2 : Int32) (k_3 : Int32) (k_4 : Int32) (k_5 : Int32) (k_6 : Int32) (a_26 : Nat) (a_27 : Nat) (a_28 : Nat) (a_29 : Nat) (a_30 : Nat) (a_31 : Nat) (a_32 : Nat) (a_33 : Nat) (a_34 : Nat) (a_35 : Nat)   : mm_CI l yX11_sense (mm_ws yX11_sense cX11_sense 3 (some .int)) ({ frames := 1, cells := 0, slots := 0, locals := 21 } : Room) G cy sz [(a_0, .inr (11, [.ref a_1, .ref a_2, .ref a_3, .ref a_4, .ref a_5, .ref a_6, .ref a_7, .ref a_8, .ref a_9, .ref a_10, .ref a_11])), (a_3, .inr (10, [.ref a_24, .ref a_25])), (a_24, .inr (0, [.int k_0, .int k_1, .int k_2, .int k_3, .int 0, .int k_4, .int k_5, .int k_6, .ref a_26, .ref a_27, .ref a_28, .ref a_29, .ref a_30, .ref a_31, .ref a_32, .ref a_33, .ref a_34, .ref a_35]))] [.ref a_0, .int i_0, .int i_1] (fun u : Unit => [(a_0, .inr (11, [.ref a_1, .ref a_2, .ref a_3, .ref a_4, .ref a_5, .ref a_6, .ref a_7, .ref a_8, .ref a_9, .ref a_10, .ref a_11])), (a_3, .inr (10, [.ref a_24, .ref a_25])), (a_24, .inr (0, [.int k_0, .int k_1, .int k_2, .int k_3, .int 0, .int k_4, .int k_5, .int k_6, .ref a_26, .ref a_27, .ref a_28, .ref a_29, .ref a_30, .ref a_31, .ref a_32, .ref a_33, .ref a_34, .ref a_35]))]) (fun (r : Int32) (u : Unit) => (-2) = r) 0 0 := by
  refine mm_begin (lv := [(0, .ref a_0), (1, .int i_0), (2, .int i_1)]) (by decide) (Nat.le_of_ble_eq_true rfl) rfl ?_
  intro p e s m below meth c A ls R args Q H locs hRe hQ hAe hx hb hr hlocks hml hown hnm hts hsz hA hS hP hK hD hl
  have hRf : R.frames = 1 := by rw [hRe]
  have hRl : R.locals = 21 := by rw [hRe]
  have hRc : R.cells = 0 := by rw [hRe]
  have hRs : R.slots = 0 := by rw [hRe]
  refine lv_aload_n hx hb dX11_sense_0 rfl (lv_at hl 0 rfl) ?_
  refine lv_iload_n hx hb dX11_sense_1 rfl (lv_at hl 1 rfl) ?_
  refine mm_finir (va_runV (As := [.int i_0]) (rest := []) ⟨hx, hb, hml, hown, hts⟩ (K107_X11_isSense l G cy H.size a_0 i_0 a_1 a_2 a_3 a_4 a_5 a_6 a_7 a_8 a_9 a_10 a_11 a_24 a_25 k_0 k_1 k_2 k_3 k_4 k_5 k_6 a_26 a_27 a_28 a_29 a_30 a_31 a_32 a_33 a_34 a_35 ) (cwV 1 hts (mm_gV mm_w576 mm_w577 mm_w578 mm_w2 mm_w579) rfl rfl rfl hd_X11_isSense ⟨by rw [hRf]; exact Nat.le_of_ble_eq_true rfl, by rw [hRl]; exact Nat.le_of_ble_eq_true rfl⟩) (mm_preV hK hP hD [0, 1, 2] rfl rfl 0 rfl rfl rfl) rfl rfl hl.1 rfl (lv_room (Nat.le_of_ble_eq_true rfl)) dX11_sense_2 ⟨by rw [hRc]; exact Nat.le_of_ble_eq_true rfl, by rw [hRs]; exact Nat.le_of_ble_eq_true rfl⟩) hP hD hS hA [0, 1, 2] rfl (fun _ => rfl) ?_
  clear hP hD hS
  clear H locs
  intro v1 _u H locs hw hP hD hS
  subst hw
  refine lv_if_eq (tgt := 15) hx hb dX11_sense_5 (by decide) (fun c2 => ?_) (fun c2 => ?_)
  · refine lv_bipush (v := (-2)) hx hb dX11_sense_15 (by decide) ?_
    subst hAe
    rw [hQ]
    exact W.iret (v := (-2)) hx hb hr (fun t ht hW => ⟨⟨(-2), (), rfl, rfl, by rw [ht]; exact hP, hK.warm hW, hD⟩, hS.F ht⟩) hS.2.2 dX11_sense_17
  · have q3 := mm_neL (lo := 1) (mm_ne c2) mm_k0 mm_k0 (by decide) (by decide)
    exact mm_no q3 (by decide)

set_option maxHeartbeats 4000000 in
set_option maxRecDepth 100000 in
theorem K108_X12_senses (l : Launch) (G : va_G) (cy : Nat → ClassId) (sz : Nat) (a_0 : Nat) (k_0 : Int32) (a_1 : Nat) (a_2 : Nat) (a_3 : Nat) (a_4 : Nat) (a_5 : Nat) (k_1 : Int32) (k_2 : Int32) (k_3 : Int32) (k_4 : Int32) (k_5 : Int32) (k_6 : Int64) (k_7 : Int32) (k_8 : Int32) (k_9 : Int32) (k_10 : Int32) (a_6 : Nat) (a_7 : Nat) (a_8 : Nat) (a_9 : Nat) (a_10 : Nat) (a_11 : Nat) (a_12 : Nat) (a_13 : Nat) (a_14 : Nat) (a_15 : Nat) (a_16 : Nat) (a_17 : Nat) (a_18 : Nat) (k_11 : Int32) (k_12 : Int32) (k_13 : Int32) (k_14 : Int32) (k_15 : Int32) (k_16 : Int32) (a_19 : Nat) (k_17 : Int32) (a_20 : Nat)   : mm_CI l yX12_senses (mm_ws yX12_senses cX12_senses 1 (some .int)) ({ frames := 0, cells := 0, slots := 0, locals := 0 } : Room) G cy sz [(a_0, .inr (12, [.int k_0, .ref a_1, .ref a_2, .ref a_3, .ref a_4, .ref a_5, .int k_1, .int k_2, .int k_3, .int k_4, .int k_5, .long k_6, .int k_7, .int k_8, .int k_9, .int k_10, .ref a_6, .ref a_7, .ref a_8, .ref a_9, .ref a_10, .ref a_11, .ref a_12, .ref a_13, .ref a_14, .ref a_15, .ref a_16, .ref a_17, .ref a_18, .int k_11, .int k_12, .int k_13, .int k_14, .int k_15, .int k_16, .ref a_19, .int k_17, .ref a_20])), (a_7, .inl (cy 1, 30, .inl (fun _ => 0)))] [.ref a_0] (fun u : Unit => [(a_0, .inr (12, [.int k_0, .ref a_1, .ref a_2, .ref a_3, .ref a_4, .ref a_5, .int k_1, .int k_2, .int k_3, .int k_4, .int k_5, .long k_6, .int k_7, .int k_8, .int k_9, .int k_10, .ref a_6, .ref a_7, .ref a_8, .ref a_9, .ref a_10, .ref a_11, .ref a_12, .ref a_13, .ref a_14, .ref a_15, .ref a_16, .ref a_17, .ref a_18, .int k_11, .int k_12, .int k_13, .int k_14, .int k_15, .int k_16, .ref a_19, .int k_17, .ref a_20])), (a_7, .inl (cy 1, 30, .inl (fun _ => 0)))]) (fun (r : Int32) (u : Unit) => 0 = r) 0 0 := by
  refine mm_begin (lv := [(0, .ref a_0)]) (by decide) (Nat.le_of_ble_eq_true rfl) rfl ?_
  intro p e s m below meth c A ls R args Q H locs hRe hQ hAe hx hb hr hlocks hml hown hnm hts hsz hA hS hP hK hD hl
  have hRf : R.frames = 0 := by rw [hRe]
  have hRl : R.locals = 0 := by rw [hRe]
  have hRc : R.cells = 0 := by rw [hRe]
  have hRs : R.slots = 0 := by rw [hRe]
  refine lv_aload_n hx hb dX12_senses_0 rfl (lv_at hl 0 rfl) ?_
  refine va_get (D := G) (ci := 12) (v := .ref a_7) (C := RX12) (T := TX12) (N := 38) hx hb hts (mm_i inlX12) hown hK.1 hP 0 rfl rfl 17 (by decide) (mm_h hts mm_w149) (fun _ h9 => h9) rfl dX12_senses_1 ?_
  refine lv_iconst (v := 2) hx hb dX12_senses_4 (by decide) ?_
  refine va_iald hx hb hK.1 hP 1 1 rfl rfl (mm_in mm_k2 (by decide)) dX12_senses_5 ?_
  refine lv_topi (fun v1 ev1 => ?_)
  obtain rfl : v1 = 0 := ev1
  subst hAe
  rw [hQ]
  exact W.iret (v := 0) hx hb hr (fun t ht hW => ⟨⟨0, (), rfl, rfl, by rw [ht]; exact hP, hK.warm hW, hD⟩, hS.F ht⟩) hS.2.2 dX12_senses_6

set_option maxHeartbeats 4000000 in
set_option maxRecDepth 100000 in
theorem K109_X12_in (l : Launch) (G : va_G) (cy : Nat → ClassId) (sz : Nat) (j_0 : Int64) (h0 : mm_rl j_0 (-2147483648) 2147483647)  : mm_CI l yX12_in (mm_ws yX12_in cX12_in 6 (some .boolean)) ({ frames := 0, cells := 0, slots := 0, locals := 0 } : Room) G cy sz [] [.long j_0, .long 0, .long (-1)] (fun u : Unit => []) (fun (r : Int32) (u : Unit) => 0 = r) 0 0 := by
  refine mm_begin (lv := [(0, .long j_0), (2, .long 0), (4, .long (-1))]) (by decide) (Nat.le_of_ble_eq_true rfl) rfl ?_
  intro p e s m below meth c A ls R args Q H locs hRe hQ hAe hx hb hr hlocks hml hown hnm hts hsz hA hS hP hK hD hl
  have hRf : R.frames = 0 := by rw [hRe]
  have hRl : R.locals = 0 := by rw [hRe]
  have hRc : R.cells = 0 := by rw [hRe]
  have hRs : R.slots = 0 := by rw [hRe]
  refine lv_lload_n hx hb dX12_in_0 rfl (lv_at hl 0 rfl) ?_
  refine lv_lload_n hx hb dX12_in_1 rfl (lv_at hl 1 rfl) ?_
  refine W.lcmp hx hb dX12_in_2 ?_
  refine lv_topi (fun v1 ev1 => ?_)
  refine lv_if_lt (tgt := 17) hx hb dX12_in_3 (by decide) (fun c2 => ?_) (fun c2 => ?_)
  · have q3 := mm_ltLl (h := (-1)) (mm_cmp_lt ev1 c2) h0 mm_kl0 (by decide)
    refine lv_iconst (v := 0) hx hb dX12_in_17 (by decide) ?_
    subst hAe
    rw [hQ]
    exact W.zret (v := 0) hx hb hr rfl (fun t ht hW => ⟨⟨0, (), rfl, rfl, by rw [ht]; exact hP, hK.warm hW, hD⟩, hS.F ht⟩) hS.2.2 dX12_in_18
  · have q4 := mm_leRl (mm_cmp_ge ev1 (mm_n_lt c2)) mm_kl0 h0
    refine lv_lload_n hx hb dX12_in_6 rfl (lv_at hl 0 rfl) ?_
    refine lv_lload hx hb dX12_in_7 (lv_at hl 2 rfl) ?_
    refine W.lcmp hx hb dX12_in_9 ?_
    refine lv_topi (fun v5 ev5 => ?_)
    refine lv_if_gt (tgt := 17) hx hb dX12_in_10 (by decide) (fun c6 => ?_) (fun c6 => ?_)
    · refine lv_iconst (v := 0) hx hb dX12_in_17 (by decide) ?_
      subst hAe
      rw [hQ]
      exact W.zret (v := 0) hx hb hr rfl (fun t ht hW => ⟨⟨0, (), rfl, rfl, by rw [ht]; exact hP, hK.warm hW, hD⟩, hS.F ht⟩) hS.2.2 dX12_in_18
    · have q7 := mm_leLl (mm_cmp_le ev5 (mm_n_gt c6)) q4 mm_klm1
      exact mm_nol q7 (by decide)

set_option maxHeartbeats 4000000 in
set_option maxRecDepth 100000 in
theorem K111_X12_senses (l : Launch) (G : va_G) (cy : Nat → ClassId) (sz : Nat) (a_0 : Nat) (k_0 : Int32) (a_1 : Nat) (a_2 : Nat) (a_3 : Nat) (a_4 : Nat) (a_5 : Nat) (i_0 : Int32) (i_1 : Int32) (i_2 : Int32) (i_3 : Int32) (i_4 : Int32) (j_0 : Int64) (i_5 : Int32) (i_6 : Int32) (i_7 : Int32) (i_8 : Int32) (a_6 : Nat) (a_7 : Nat) (a_8 : Nat) (a_9 : Nat) (a_10 : Nat) (a_11 : Nat) (a_12 : Nat) (a_13 : Nat) (a_14 : Nat) (a_15 : Nat) (a_16 : Nat) (a_17 : Nat) (a_18 : Nat) (i_9 : Int32) (i_10 : Int32) (i_11 : Int32) (i_12 : Int32) (i_13 : Int32) (i_14 : Int32) (a_19 : Nat) (i_15 : Int32) (a_20 : Nat)   : mm_CI l yX12_senses (mm_ws yX12_senses cX12_senses 1 (some .int)) ({ frames := 0, cells := 0, slots := 0, locals := 0 } : Room) G cy sz [(a_0, .inr (12, [.int k_0, .ref a_1, .ref a_2, .ref a_3, .ref a_4, .ref a_5, .int i_0, .int i_1, .int i_2, .int i_3, .int i_4, .long j_0, .int i_5, .int i_6, .int i_7, .int i_8, .ref a_6, .ref a_7, .ref a_8, .ref a_9, .ref a_10, .ref a_11, .ref a_12, .ref a_13, .ref a_14, .ref a_15, .ref a_16, .ref a_17, .ref a_18, .int i_9, .int i_10, .int i_11, .int i_12, .int i_13, .int i_14, .ref a_19, .int i_15, .ref a_20])), (a_7, .inl (cy 1, 30, .inl (fun _ => 0)))] [.ref a_0] (fun u : Unit => [(a_0, .inr (12, [.int k_0, .ref a_1, .ref a_2, .ref a_3, .ref a_4, .ref a_5, .int i_0, .int i_1, .int i_2, .int i_3, .int i_4, .long j_0, .int i_5, .int i_6, .int i_7, .int i_8, .ref a_6, .ref a_7, .ref a_8, .ref a_9, .ref a_10, .ref a_11, .ref a_12, .ref a_13, .ref a_14, .ref a_15, .ref a_16, .ref a_17, .ref a_18, .int i_9, .int i_10, .int i_11, .int i_12, .int i_13, .int i_14, .ref a_19, .int i_15, .ref a_20])), (a_7, .inl (cy 1, 30, .inl (fun _ => 0)))]) (fun (r : Int32) (u : Unit) => 0 = r) 0 0 := by
  refine mm_begin (lv := [(0, .ref a_0)]) (by decide) (Nat.le_of_ble_eq_true rfl) rfl ?_
  intro p e s m below meth c A ls R args Q H locs hRe hQ hAe hx hb hr hlocks hml hown hnm hts hsz hA hS hP hK hD hl
  have hRf : R.frames = 0 := by rw [hRe]
  have hRl : R.locals = 0 := by rw [hRe]
  have hRc : R.cells = 0 := by rw [hRe]
  have hRs : R.slots = 0 := by rw [hRe]
  refine lv_aload_n hx hb dX12_senses_0 rfl (lv_at hl 0 rfl) ?_
  refine va_get (D := G) (ci := 12) (v := .ref a_7) (C := RX12) (T := TX12) (N := 38) hx hb hts (mm_i inlX12) hown hK.1 hP 0 rfl rfl 17 (by decide) (mm_h hts mm_w149) (fun _ h9 => h9) rfl dX12_senses_1 ?_
  refine lv_iconst (v := 2) hx hb dX12_senses_4 (by decide) ?_
  refine va_iald hx hb hK.1 hP 1 1 rfl rfl (mm_in mm_k2 (by decide)) dX12_senses_5 ?_
  refine lv_topi (fun v1 ev1 => ?_)
  obtain rfl : v1 = 0 := ev1
  subst hAe
  rw [hQ]
  exact W.iret (v := 0) hx hb hr (fun t ht hW => ⟨⟨0, (), rfl, rfl, by rw [ht]; exact hP, hK.warm hW, hD⟩, hS.F ht⟩) hS.2.2 dX12_senses_6

set_option maxHeartbeats 4000000 in
set_option maxRecDepth 100000 in
theorem K110_X12_sense (l : Launch) (G : va_G) (cy : Nat → ClassId) (sz : Nat) (a_0 : Nat) (i_0 : Int32) (i_1 : Int32) (a_1 : Nat) (a_2 : Nat) (a_3 : Nat) (a_4 : Nat) (a_5 : Nat) (k_0 : Int32) (k_1 : Int32) (k_2 : Int32) (k_3 : Int32) (k_4 : Int32) (k_5 : Int64) (k_6 : Int32) (k_7 : Int32) (k_8 : Int32) (k_9 : Int32) (a_6 : Nat) (a_7 : Nat) (a_8 : Nat) (a_9 : Nat) (a_10 : Nat) (a_11 : Nat) (a_12 : Nat) (a_13 : Nat) (a_14 : Nat) (a_15 : Nat) (a_16 : Nat) (a_17 : Nat) (a_18 : Nat) (k_10 : Int32) (k_11 : Int32) (k_12 : Int32) (k_13 : Int32) (k_14 : Int32) (k_15 : Int32) (a_19 : Nat) (k_16 : Int32) (a_20 : Nat)   : mm_CI l yX12_sense (mm_ws yX12_sense cX12_sense 3 (some .int)) ({ frames := 1, cells := 0, slots := 0, locals := 25 } : Room) G cy sz [(a_0, .inr (12, [.int 0, .ref a_1, .ref a_2, .ref a_3, .ref a_4, .ref a_5, .int k_0, .int k_1, .int k_2, .int k_3, .int k_4, .long k_5, .int k_6, .int k_7, .int k_8, .int k_9, .ref a_6, .ref a_7, .ref a_8, .ref a_9, .ref a_10, .ref a_11, .ref a_12, .ref a_13, .ref a_14, .ref a_15, .ref a_16, .ref a_17, .ref a_18, .int k_10, .int k_11, .int k_12, .int k_13, .int k_14, .int k_15, .ref a_19, .int k_16, .ref a_20])), (a_7, .inl (cy 1, 30, .inl (fun _ => 0)))] [.ref a_0, .int i_0, .int i_1] (fun u : Unit => [(a_0, .inr (12, [.int 0, .ref a_1, .ref a_2, .ref a_3, .ref a_4, .ref a_5, .int k_0, .int k_1, .int k_2, .int k_3, .int k_4, .long k_5, .int k_6, .int k_7, .int k_8, .int k_9, .ref a_6, .ref a_7, .ref a_8, .ref a_9, .ref a_10, .ref a_11, .ref a_12, .ref a_13, .ref a_14, .ref a_15, .ref a_16, .ref a_17, .ref a_18, .int k_10, .int k_11, .int k_12, .int k_13, .int k_14, .int k_15, .ref a_19, .int k_16, .ref a_20])), (a_7, .inl (cy 1, 30, .inl (fun _ => 0)))]) (fun (r : Int32) (u : Unit) => (-2) = r) 0 0 := by
  refine mm_begin (lv := [(0, .ref a_0), (1, .int i_0), (2, .int i_1)]) (by decide) (Nat.le_of_ble_eq_true rfl) rfl ?_
  intro p e s m below meth c A ls R args Q H locs hRe hQ hAe hx hb hr hlocks hml hown hnm hts hsz hA hS hP hK hD hl
  have hRf : R.frames = 1 := by rw [hRe]
  have hRl : R.locals = 25 := by rw [hRe]
  have hRc : R.cells = 0 := by rw [hRe]
  have hRs : R.slots = 0 := by rw [hRe]
  refine lv_aload_n hx hb dX12_sense_0 rfl (lv_at hl 0 rfl) ?_
  refine lv_iconst (v := 0) hx hb dX12_sense_1 (by decide) ?_
  refine va_put (D := G) (ci := 12) (v := .int 0) (ty := tyX12 0) (C := RX12) (T := TX12) (N := 38) hx hb hts (mm_i inlX12) tyX12 tyX12_ok nmX12 hown hK.1 hP hD hS 0 rfl rfl 0 (by decide) (mm_h hts mm_w177) (fun _ h9 => h9) rfl (tyX12_ok 0 (by decide)) rfl rfl (Nat.le_of_ble_eq_true rfl) dX12_sense_2 ?_
  clear hP hD hS
  clear H locs
  intro H locs (hP : va_P G vwCl [(a_0, .inr (12, [.int 0, .ref a_1, .ref a_2, .ref a_3, .ref a_4, .ref a_5, .int k_0, .int k_1, .int k_2, .int k_3, .int k_4, .long k_5, .int k_6, .int k_7, .int k_8, .int k_9, .ref a_6, .ref a_7, .ref a_8, .ref a_9, .ref a_10, .ref a_11, .ref a_12, .ref a_13, .ref a_14, .ref a_15, .ref a_16, .ref a_17, .ref a_18, .int k_10, .int k_11, .int k_12, .int k_13, .int k_14, .int k_15, .ref a_19, .int k_16, .ref a_20])), (a_7, .inl (cy 1, 30, .inl (fun _ => 0)))] H) (hD : va_D A [(a_0, .inr (12, [.int 0, .ref a_1, .ref a_2, .ref a_3, .ref a_4, .ref a_5, .int k_0, .int k_1, .int k_2, .int k_3, .int k_4, .long k_5, .int k_6, .int k_7, .int k_8, .int k_9, .ref a_6, .ref a_7, .ref a_8, .ref a_9, .ref a_10, .ref a_11, .ref a_12, .ref a_13, .ref a_14, .ref a_15, .ref a_16, .ref a_17, .ref a_18, .int k_10, .int k_11, .int k_12, .int k_13, .int k_14, .int k_15, .ref a_19, .int k_16, .ref a_20])), (a_7, .inl (cy 1, 30, .inl (fun _ => 0)))]) hS
  refine lv_iload_n hx hb dX12_sense_5 rfl (lv_at hl 1 rfl) ?_
  obtain ⟨v1, ev1⟩ : ∃ y : Int64, y = i_0.toInt64 := ⟨_, rfl⟩
  refine lv_i2l hx hb dX12_sense_6 ev1.symm ?_
  have rv1 : mm_rl v1 (-2147483648) 2147483647 := mm_i2l ev1 (mm_top i_0)
  refine lv_lconst (v := 0) hx hb dX12_sense_7 (by decide) ?_
  refine lv_aload_n hx hb dX12_sense_8 rfl (lv_at hl 0 rfl) ?_
  refine mm_finir (va_runV (As := []) (rest := [.long 0, .long v1]) ⟨hx, hb, hml, hown, hts⟩ (K111_X12_senses l G cy H.size a_0 0 a_1 a_2 a_3 a_4 a_5 k_0 k_1 k_2 k_3 k_4 k_5 k_6 k_7 k_8 k_9 a_6 a_7 a_8 a_9 a_10 a_11 a_12 a_13 a_14 a_15 a_16 a_17 a_18 k_10 k_11 k_12 k_13 k_14 k_15 a_19 k_16 a_20 ) (cwV 0 hts (mm_gV mm_w588 mm_w589 mm_w590 mm_w5 mm_w591) rfl rfl rfl hd_X12_senses ⟨by rw [hRf]; exact Nat.le_of_ble_eq_true rfl, by rw [hRl]; exact Nat.le_of_ble_eq_true rfl⟩) (mm_preV hK hP hD [0, 1] rfl rfl 0 rfl rfl rfl) rfl rfl hl.1 rfl (lv_room (Nat.le_of_ble_eq_true rfl)) dX12_sense_9 ⟨by rw [hRc]; exact Nat.le_of_ble_eq_true rfl, by rw [hRs]; exact Nat.le_of_ble_eq_true rfl⟩) hP hD hS hA [0, 1] rfl (fun _ => rfl) ?_
  clear hP hD hS
  clear H locs
  intro v2 _u H locs hw hP hD hS
  subst hw
  refine lv_i2l (v := 0) hx hb dX12_sense_12 (by decide) ?_
  refine lv_lconst (v := 1) hx hb dX12_sense_13 (by decide) ?_
  refine lv_lsub hx hb dX12_sense_14 ?_
  refine lv_topl (fun v3 ev3 => ?_)
  obtain rfl : v3 = (-1) := ev3.trans (by decide)
  refine mm_finir (va_runS (As := [.long v1, .long 0, .long (-1)]) (rest := []) ⟨hx, hb, hml, hown, hts⟩ (K109_X12_in l G cy H.size v1 rv1) (va_cwS 3 hts (mm_gS mm_w191 mm_w192 mm_w5 mm_w193) rfl rfl rfl hs_X12_in ⟨by rw [hRf]; exact Nat.le_of_ble_eq_true rfl, by rw [hRl]; exact Nat.le_of_ble_eq_true rfl⟩) (mm_preS hK hP hD [] rfl rfl) rfl rfl hl.1 rfl (lv_room (Nat.le_of_ble_eq_true rfl)) dX12_sense_15 ⟨by rw [hRc]; exact Nat.le_of_ble_eq_true rfl, by rw [hRs]; exact Nat.le_of_ble_eq_true rfl⟩) hP hD hS hA [] rfl (fun _ => rfl) ?_
  clear hP hD hS
  clear H locs
  intro v4 _u H locs hw hP hD hS
  subst hw
  refine lv_if_eq (tgt := 41) hx hb dX12_sense_18 (by decide) (fun c5 => ?_) (fun c5 => ?_)
  · refine lv_bipush (v := (-2)) hx hb dX12_sense_41 (by decide) ?_
    subst hAe
    rw [hQ]
    exact W.iret (v := (-2)) hx hb hr (fun t ht hW => ⟨⟨(-2), (), rfl, rfl, by rw [ht]; exact hP, hK.warm hW, hD⟩, hS.F ht⟩) hS.2.2 dX12_sense_43
  · have q6 := mm_neL (lo := 1) (mm_ne c5) mm_k0 mm_k0 (by decide) (by decide)
    exact mm_no q6 (by decide)

set_option maxHeartbeats 4000000 in
set_option maxRecDepth 100000 in
theorem K112_X11_isText (l : Launch) (G : va_G) (cy : Nat → ClassId) (sz : Nat) (a_0 : Nat) (i_0 : Int32) (a_1 : Nat) (a_2 : Nat) (a_3 : Nat) (a_4 : Nat) (a_5 : Nat) (a_6 : Nat) (a_7 : Nat) (a_8 : Nat) (a_9 : Nat) (a_10 : Nat) (a_11 : Nat) (a_24 : Nat) (a_25 : Nat) (k_0 : Int32) (k_1 : Int32) (k_2 : Int32) (k_3 : Int32) (k_4 : Int32) (k_5 : Int32) (k_6 : Int32) (a_26 : Nat) (a_27 : Nat) (a_28 : Nat) (a_29 : Nat) (a_30 : Nat) (a_31 : Nat) (a_32 : Nat) (a_33 : Nat) (a_34 : Nat) (a_35 : Nat)   : mm_CI l yX11_isText (mm_ws yX11_isText cX11_isText 2 (some .boolean)) ({ frames := 0, cells := 0, slots := 0, locals := 0 } : Room) G cy sz [(a_0, .inr (11, [.ref a_1, .ref a_2, .ref a_3, .ref a_4, .ref a_5, .ref a_6, .ref a_7, .ref a_8, .ref a_9, .ref a_10, .ref a_11])), (a_3, .inr (10, [.ref a_24, .ref a_25])), (a_24, .inr (0, [.int k_0, .int k_1, .int k_2, .int k_3, .int k_4, .int k_5, .int 0, .int k_6, .ref a_26, .ref a_27, .ref a_28, .ref a_29, .ref a_30, .ref a_31, .ref a_32, .ref a_33, .ref a_34, .ref a_35]))] [.ref a_0, .int i_0] (fun u : Unit => [(a_0, .inr (11, [.ref a_1, .ref a_2, .ref a_3, .ref a_4, .ref a_5, .ref a_6, .ref a_7, .ref a_8, .ref a_9, .ref a_10, .ref a_11])), (a_3, .inr (10, [.ref a_24, .ref a_25])), (a_24, .inr (0, [.int k_0, .int k_1, .int k_2, .int k_3, .int k_4, .int k_5, .int 0, .int k_6, .ref a_26, .ref a_27, .ref a_28, .ref a_29, .ref a_30, .ref a_31, .ref a_32, .ref a_33, .ref a_34, .ref a_35]))]) (fun (r : Int32) (u : Unit) => 0 = r) 0 0 := by
  refine mm_begin (lv := [(0, .ref a_0), (1, .int i_0)]) (by decide) (Nat.le_of_ble_eq_true rfl) rfl ?_
  intro p e s m below meth c A ls R args Q H locs hRe hQ hAe hx hb hr hlocks hml hown hnm hts hsz hA hS hP hK hD hl
  have hRf : R.frames = 0 := by rw [hRe]
  have hRl : R.locals = 0 := by rw [hRe]
  have hRc : R.cells = 0 := by rw [hRe]
  have hRs : R.slots = 0 := by rw [hRe]
  refine lv_iload_n hx hb dX11_isText_0 rfl (lv_at hl 1 rfl) ?_
  refine lv_if_lt (tgt := 22) hx hb dX11_isText_1 (by decide) (fun c1 => ?_) (fun c1 => ?_)
  · have q2 := mm_ltL (h := (-1)) (mm_lt c1) (mm_top i_0) mm_k0 (by decide)
    refine lv_iconst (v := 0) hx hb dX11_isText_22 (by decide) ?_
    subst hAe
    rw [hQ]
    exact W.zret (v := 0) hx hb hr rfl (fun t ht hW => ⟨⟨0, (), rfl, rfl, by rw [ht]; exact hP, hK.warm hW, hD⟩, hS.F ht⟩) hS.2.2 dX11_isText_23
  · have q3 := mm_leR (mm_nlt c1) mm_k0 (mm_top i_0)
    refine lv_iload_n hx hb dX11_isText_4 rfl (lv_at hl 1 rfl) ?_
    refine lv_aload_n hx hb dX11_isText_5 rfl (lv_at hl 0 rfl) ?_
    refine va_get (D := G) (ci := 11) (v := .ref a_3) (C := RX11) (T := TX11) (N := 11) hx hb hts (mm_i inlX11) hown hK.1 hP 0 rfl rfl 2 (by decide) (mm_h hts mm_w24) (fun _ h9 => h9) rfl dX11_isText_6 ?_
    refine va_get (D := G) (ci := 10) (v := .ref a_24) (C := RX10) (T := TX10) (N := 2) hx hb hts (mm_i inlX10) hown hK.1 hP 1 rfl rfl 0 (by decide) (mm_h hts mm_w199) (fun _ h9 => h9) rfl dX11_isText_9 ?_
    refine va_get (D := G) (ci := 0) (v := .int 0) (C := RX0) (T := TX0) (N := 18) hx hb hts (mm_i inlX0) hown hK.1 hP 2 rfl rfl 6 (by decide) (mm_h hts mm_w604) (fun _ h9 => h9) rfl dX11_isText_12 ?_
    refine lv_icmp_ge (tgt := 22) hx hb dX11_isText_15 (by decide) (fun c4 => ?_) (fun c4 => ?_)
    · refine lv_iconst (v := 0) hx hb dX11_isText_22 (by decide) ?_
      subst hAe
      rw [hQ]
      exact W.zret (v := 0) hx hb hr rfl (fun t ht hW => ⟨⟨0, (), rfl, rfl, by rw [ht]; exact hP, hK.warm hW, hD⟩, hS.F ht⟩) hS.2.2 dX11_isText_23
    · have q5 := mm_ltL (h := (-1)) (mm_nle c4) q3 mm_k0 (by decide)
      exact mm_no q5 (by decide)

set_option maxHeartbeats 4000000 in
set_option maxRecDepth 100000 in
theorem K114_X11_isText (l : Launch) (G : va_G) (cy : Nat → ClassId) (sz : Nat) (a_0 : Nat) (i_0 : Int32) (a_1 : Nat) (a_2 : Nat) (a_3 : Nat) (a_4 : Nat) (a_5 : Nat) (a_6 : Nat) (a_7 : Nat) (a_8 : Nat) (a_9 : Nat) (a_10 : Nat) (a_11 : Nat) (a_12 : Nat) (a_13 : Nat) (i_1 : Int32) (i_2 : Int32) (i_3 : Int32) (i_4 : Int32) (i_5 : Int32) (i_6 : Int32) (i_7 : Int32) (a_14 : Nat) (a_15 : Nat) (a_16 : Nat) (a_17 : Nat) (a_18 : Nat) (a_19 : Nat) (a_20 : Nat) (a_21 : Nat) (a_22 : Nat) (a_23 : Nat)   : mm_CI l yX11_isText (mm_ws yX11_isText cX11_isText 2 (some .boolean)) ({ frames := 0, cells := 0, slots := 0, locals := 0 } : Room) G cy sz [(a_0, .inr (11, [.ref a_1, .ref a_2, .ref a_3, .ref a_4, .ref a_5, .ref a_6, .ref a_7, .ref a_8, .ref a_9, .ref a_10, .ref a_11])), (a_3, .inr (10, [.ref a_12, .ref a_13])), (a_12, .inr (0, [.int i_1, .int i_2, .int i_3, .int i_4, .int i_5, .int i_6, .int 0, .int i_7, .ref a_14, .ref a_15, .ref a_16, .ref a_17, .ref a_18, .ref a_19, .ref a_20, .ref a_21, .ref a_22, .ref a_23]))] [.ref a_0, .int i_0] (fun u : Unit => [(a_0, .inr (11, [.ref a_1, .ref a_2, .ref a_3, .ref a_4, .ref a_5, .ref a_6, .ref a_7, .ref a_8, .ref a_9, .ref a_10, .ref a_11])), (a_3, .inr (10, [.ref a_12, .ref a_13])), (a_12, .inr (0, [.int i_1, .int i_2, .int i_3, .int i_4, .int i_5, .int i_6, .int 0, .int i_7, .ref a_14, .ref a_15, .ref a_16, .ref a_17, .ref a_18, .ref a_19, .ref a_20, .ref a_21, .ref a_22, .ref a_23]))]) (fun (r : Int32) (u : Unit) => 0 = r) 0 0 := by
  refine mm_begin (lv := [(0, .ref a_0), (1, .int i_0)]) (by decide) (Nat.le_of_ble_eq_true rfl) rfl ?_
  intro p e s m below meth c A ls R args Q H locs hRe hQ hAe hx hb hr hlocks hml hown hnm hts hsz hA hS hP hK hD hl
  have hRf : R.frames = 0 := by rw [hRe]
  have hRl : R.locals = 0 := by rw [hRe]
  have hRc : R.cells = 0 := by rw [hRe]
  have hRs : R.slots = 0 := by rw [hRe]
  refine lv_iload_n hx hb dX11_isText_0 rfl (lv_at hl 1 rfl) ?_
  refine lv_if_lt (tgt := 22) hx hb dX11_isText_1 (by decide) (fun c1 => ?_) (fun c1 => ?_)
  · have q2 := mm_ltL (h := (-1)) (mm_lt c1) (mm_top i_0) mm_k0 (by decide)
    refine lv_iconst (v := 0) hx hb dX11_isText_22 (by decide) ?_
    subst hAe
    rw [hQ]
    exact W.zret (v := 0) hx hb hr rfl (fun t ht hW => ⟨⟨0, (), rfl, rfl, by rw [ht]; exact hP, hK.warm hW, hD⟩, hS.F ht⟩) hS.2.2 dX11_isText_23
  · have q3 := mm_leR (mm_nlt c1) mm_k0 (mm_top i_0)
    refine lv_iload_n hx hb dX11_isText_4 rfl (lv_at hl 1 rfl) ?_
    refine lv_aload_n hx hb dX11_isText_5 rfl (lv_at hl 0 rfl) ?_
    refine va_get (D := G) (ci := 11) (v := .ref a_3) (C := RX11) (T := TX11) (N := 11) hx hb hts (mm_i inlX11) hown hK.1 hP 0 rfl rfl 2 (by decide) (mm_h hts mm_w24) (fun _ h9 => h9) rfl dX11_isText_6 ?_
    refine va_get (D := G) (ci := 10) (v := .ref a_12) (C := RX10) (T := TX10) (N := 2) hx hb hts (mm_i inlX10) hown hK.1 hP 1 rfl rfl 0 (by decide) (mm_h hts mm_w199) (fun _ h9 => h9) rfl dX11_isText_9 ?_
    refine va_get (D := G) (ci := 0) (v := .int 0) (C := RX0) (T := TX0) (N := 18) hx hb hts (mm_i inlX0) hown hK.1 hP 2 rfl rfl 6 (by decide) (mm_h hts mm_w604) (fun _ h9 => h9) rfl dX11_isText_12 ?_
    refine lv_icmp_ge (tgt := 22) hx hb dX11_isText_15 (by decide) (fun c4 => ?_) (fun c4 => ?_)
    · refine lv_iconst (v := 0) hx hb dX11_isText_22 (by decide) ?_
      subst hAe
      rw [hQ]
      exact W.zret (v := 0) hx hb hr rfl (fun t ht hW => ⟨⟨0, (), rfl, rfl, by rw [ht]; exact hP, hK.warm hW, hD⟩, hS.F ht⟩) hS.2.2 dX11_isText_23
    · have q5 := mm_ltL (h := (-1)) (mm_nle c4) q3 mm_k0 (by decide)
      exact mm_no q5 (by decide)

set_option maxHeartbeats 4000000 in
set_option maxRecDepth 100000 in
theorem K113_X11_word (l : Launch) (G : va_G) (cy : Nat → ClassId) (sz : Nat) (a_0 : Nat) (i_0 : Int32) (i_1 : Int32) (a_1 : Nat) (a_2 : Nat) (a_3 : Nat) (a_4 : Nat) (a_5 : Nat) (a_6 : Nat) (a_7 : Nat) (a_8 : Nat) (a_9 : Nat) (a_10 : Nat) (a_11 : Nat) (a_24 : Nat) (a_25 : Nat) (k_0 : Int32) (k_1 : Int32) (k_2 : Int32) (k_3 : Int32) (k_4 : Int32) (k_5 : Int32) (k_6 : Int32) (a_26 : Nat) (a_27 : Nat) (a_28 : Nat) (a_29 : Nat) (a_30 : Nat) (a_31 : Nat) (a_32 : Nat) (a_33 : Nat) (a_34 : Nat) (a_35 : Nat)   : mm_CI l yX11_word (mm_ws yX11_word cX11_word 3 (some .int)) ({ frames := 1, cells := 0, slots := 0, locals := 21 } : Room) G cy sz [(a_0, .inr (11, [.ref a_1, .ref a_2, .ref a_3, .ref a_4, .ref a_5, .ref a_6, .ref a_7, .ref a_8, .ref a_9, .ref a_10, .ref a_11])), (a_3, .inr (10, [.ref a_24, .ref a_25])), (a_24, .inr (0, [.int k_0, .int k_1, .int k_2, .int k_3, .int k_4, .int k_5, .int 0, .int k_6, .ref a_26, .ref a_27, .ref a_28, .ref a_29, .ref a_30, .ref a_31, .ref a_32, .ref a_33, .ref a_34, .ref a_35]))] [.ref a_0, .int i_0, .int i_1] (fun u : Unit => [(a_0, .inr (11, [.ref a_1, .ref a_2, .ref a_3, .ref a_4, .ref a_5, .ref a_6, .ref a_7, .ref a_8, .ref a_9, .ref a_10, .ref a_11])), (a_3, .inr (10, [.ref a_24, .ref a_25])), (a_24, .inr (0, [.int k_0, .int k_1, .int k_2, .int k_3, .int k_4, .int k_5, .int 0, .int k_6, .ref a_26, .ref a_27, .ref a_28, .ref a_29, .ref a_30, .ref a_31, .ref a_32, .ref a_33, .ref a_34, .ref a_35]))]) (fun (r : Int32) (u : Unit) => (-2) = r) 0 0 := by
  refine mm_begin (lv := [(0, .ref a_0), (1, .int i_0), (2, .int i_1)]) (by decide) (Nat.le_of_ble_eq_true rfl) rfl ?_
  intro p e s m below meth c A ls R args Q H locs hRe hQ hAe hx hb hr hlocks hml hown hnm hts hsz hA hS hP hK hD hl
  have hRf : R.frames = 1 := by rw [hRe]
  have hRl : R.locals = 21 := by rw [hRe]
  have hRc : R.cells = 0 := by rw [hRe]
  have hRs : R.slots = 0 := by rw [hRe]
  refine lv_aload_n hx hb dX11_word_0 rfl (lv_at hl 0 rfl) ?_
  refine lv_iload_n hx hb dX11_word_1 rfl (lv_at hl 1 rfl) ?_
  refine mm_finir (va_runV (As := [.int i_0]) (rest := []) ⟨hx, hb, hml, hown, hts⟩ (K114_X11_isText l G cy H.size a_0 i_0 a_1 a_2 a_3 a_4 a_5 a_6 a_7 a_8 a_9 a_10 a_11 a_24 a_25 k_0 k_1 k_2 k_3 k_4 k_5 k_6 a_26 a_27 a_28 a_29 a_30 a_31 a_32 a_33 a_34 a_35 ) (cwV 1 hts (mm_gV mm_w600 mm_w601 mm_w602 mm_w2 mm_w603) rfl rfl rfl hd_X11_isText ⟨by rw [hRf]; exact Nat.le_of_ble_eq_true rfl, by rw [hRl]; exact Nat.le_of_ble_eq_true rfl⟩) (mm_preV hK hP hD [0, 1, 2] rfl rfl 0 rfl rfl rfl) rfl rfl hl.1 rfl (lv_room (Nat.le_of_ble_eq_true rfl)) dX11_word_2 ⟨by rw [hRc]; exact Nat.le_of_ble_eq_true rfl, by rw [hRs]; exact Nat.le_of_ble_eq_true rfl⟩) hP hD hS hA [0, 1, 2] rfl (fun _ => rfl) ?_
  clear hP hD hS
  clear H locs
  intro v1 _u H locs hw hP hD hS
  subst hw
  refine lv_if_ne (tgt := 11) hx hb dX11_word_5 (by decide) (fun c2 => ?_) (fun c2 => ?_)
  · have q3 := mm_neL (lo := 1) (mm_ne c2) mm_k0 mm_k0 (by decide) (by decide)
    exact mm_no q3 (by decide)
  · refine lv_bipush (v := (-2)) hx hb dX11_word_8 (by decide) ?_
    subst hAe
    rw [hQ]
    exact W.iret (v := (-2)) hx hb hr (fun t ht hW => ⟨⟨(-2), (), rfl, rfl, by rw [ht]; exact hP, hK.warm hW, hD⟩, hS.F ht⟩) hS.2.2 dX11_word_10

set_option maxHeartbeats 4000000 in
set_option maxRecDepth 100000 in
theorem K115_X12_texts (l : Launch) (G : va_G) (cy : Nat → ClassId) (sz : Nat) (a_0 : Nat) (k_0 : Int32) (a_1 : Nat) (a_2 : Nat) (a_3 : Nat) (a_4 : Nat) (a_5 : Nat) (k_1 : Int32) (k_2 : Int32) (k_3 : Int32) (k_4 : Int32) (k_5 : Int32) (k_6 : Int64) (k_7 : Int32) (k_8 : Int32) (k_9 : Int32) (k_10 : Int32) (a_6 : Nat) (a_7 : Nat) (a_8 : Nat) (a_9 : Nat) (a_10 : Nat) (a_11 : Nat) (a_12 : Nat) (a_13 : Nat) (a_14 : Nat) (a_15 : Nat) (a_16 : Nat) (a_17 : Nat) (a_18 : Nat) (k_11 : Int32) (k_12 : Int32) (k_13 : Int32) (k_14 : Int32) (k_15 : Int32) (k_16 : Int32) (a_19 : Nat) (k_17 : Int32) (a_20 : Nat)   : mm_CI l yX12_texts (mm_ws yX12_texts cX12_texts 1 (some .int)) ({ frames := 0, cells := 0, slots := 0, locals := 0 } : Room) G cy sz [(a_0, .inr (12, [.int k_0, .ref a_1, .ref a_2, .ref a_3, .ref a_4, .ref a_5, .int k_1, .int k_2, .int k_3, .int k_4, .int k_5, .long k_6, .int k_7, .int k_8, .int k_9, .int k_10, .ref a_6, .ref a_7, .ref a_8, .ref a_9, .ref a_10, .ref a_11, .ref a_12, .ref a_13, .ref a_14, .ref a_15, .ref a_16, .ref a_17, .ref a_18, .int k_11, .int k_12, .int k_13, .int k_14, .int k_15, .int k_16, .ref a_19, .int k_17, .ref a_20])), (a_7, .inl (cy 1, 30, .inl (fun _ => 0)))] [.ref a_0] (fun u : Unit => [(a_0, .inr (12, [.int k_0, .ref a_1, .ref a_2, .ref a_3, .ref a_4, .ref a_5, .int k_1, .int k_2, .int k_3, .int k_4, .int k_5, .long k_6, .int k_7, .int k_8, .int k_9, .int k_10, .ref a_6, .ref a_7, .ref a_8, .ref a_9, .ref a_10, .ref a_11, .ref a_12, .ref a_13, .ref a_14, .ref a_15, .ref a_16, .ref a_17, .ref a_18, .int k_11, .int k_12, .int k_13, .int k_14, .int k_15, .int k_16, .ref a_19, .int k_17, .ref a_20])), (a_7, .inl (cy 1, 30, .inl (fun _ => 0)))]) (fun (r : Int32) (u : Unit) => 0 = r) 0 0 := by
  refine mm_begin (lv := [(0, .ref a_0)]) (by decide) (Nat.le_of_ble_eq_true rfl) rfl ?_
  intro p e s m below meth c A ls R args Q H locs hRe hQ hAe hx hb hr hlocks hml hown hnm hts hsz hA hS hP hK hD hl
  have hRf : R.frames = 0 := by rw [hRe]
  have hRl : R.locals = 0 := by rw [hRe]
  have hRc : R.cells = 0 := by rw [hRe]
  have hRs : R.slots = 0 := by rw [hRe]
  refine lv_aload_n hx hb dX12_texts_0 rfl (lv_at hl 0 rfl) ?_
  refine va_get (D := G) (ci := 12) (v := .ref a_7) (C := RX12) (T := TX12) (N := 38) hx hb hts (mm_i inlX12) hown hK.1 hP 0 rfl rfl 17 (by decide) (mm_h hts mm_w149) (fun _ h9 => h9) rfl dX12_texts_1 ?_
  refine lv_iconst (v := 4) hx hb dX12_texts_4 (by decide) ?_
  refine va_iald hx hb hK.1 hP 1 1 rfl rfl (mm_in mm_k4 (by decide)) dX12_texts_5 ?_
  refine lv_topi (fun v1 ev1 => ?_)
  obtain rfl : v1 = 0 := ev1
  subst hAe
  rw [hQ]
  exact W.iret (v := 0) hx hb hr (fun t ht hW => ⟨⟨0, (), rfl, rfl, by rw [ht]; exact hP, hK.warm hW, hD⟩, hS.F ht⟩) hS.2.2 dX12_texts_6

set_option maxHeartbeats 4000000 in
set_option maxRecDepth 100000 in
theorem K117_X12_texts (l : Launch) (G : va_G) (cy : Nat → ClassId) (sz : Nat) (a_0 : Nat) (i_0 : Int32) (a_1 : Nat) (a_2 : Nat) (a_3 : Nat) (a_4 : Nat) (a_5 : Nat) (i_1 : Int32) (i_2 : Int32) (i_3 : Int32) (i_4 : Int32) (i_5 : Int32) (j_0 : Int64) (i_6 : Int32) (i_7 : Int32) (i_8 : Int32) (i_9 : Int32) (a_6 : Nat) (a_7 : Nat) (a_8 : Nat) (a_9 : Nat) (a_10 : Nat) (a_11 : Nat) (a_12 : Nat) (a_13 : Nat) (a_14 : Nat) (a_15 : Nat) (a_16 : Nat) (a_17 : Nat) (a_18 : Nat) (i_10 : Int32) (i_11 : Int32) (i_12 : Int32) (i_13 : Int32) (i_14 : Int32) (i_15 : Int32) (a_19 : Nat) (i_16 : Int32) (a_20 : Nat)   : mm_CI l yX12_texts (mm_ws yX12_texts cX12_texts 1 (some .int)) ({ frames := 0, cells := 0, slots := 0, locals := 0 } : Room) G cy sz [(a_0, .inr (12, [.int i_0, .ref a_1, .ref a_2, .ref a_3, .ref a_4, .ref a_5, .int i_1, .int i_2, .int i_3, .int i_4, .int i_5, .long j_0, .int i_6, .int i_7, .int i_8, .int i_9, .ref a_6, .ref a_7, .ref a_8, .ref a_9, .ref a_10, .ref a_11, .ref a_12, .ref a_13, .ref a_14, .ref a_15, .ref a_16, .ref a_17, .ref a_18, .int i_10, .int i_11, .int i_12, .int i_13, .int i_14, .int i_15, .ref a_19, .int i_16, .ref a_20])), (a_7, .inl (cy 1, 30, .inl (fun _ => 0)))] [.ref a_0] (fun u : Unit => [(a_0, .inr (12, [.int i_0, .ref a_1, .ref a_2, .ref a_3, .ref a_4, .ref a_5, .int i_1, .int i_2, .int i_3, .int i_4, .int i_5, .long j_0, .int i_6, .int i_7, .int i_8, .int i_9, .ref a_6, .ref a_7, .ref a_8, .ref a_9, .ref a_10, .ref a_11, .ref a_12, .ref a_13, .ref a_14, .ref a_15, .ref a_16, .ref a_17, .ref a_18, .int i_10, .int i_11, .int i_12, .int i_13, .int i_14, .int i_15, .ref a_19, .int i_16, .ref a_20])), (a_7, .inl (cy 1, 30, .inl (fun _ => 0)))]) (fun (r : Int32) (u : Unit) => 0 = r) 0 0 := by
  refine mm_begin (lv := [(0, .ref a_0)]) (by decide) (Nat.le_of_ble_eq_true rfl) rfl ?_
  intro p e s m below meth c A ls R args Q H locs hRe hQ hAe hx hb hr hlocks hml hown hnm hts hsz hA hS hP hK hD hl
  have hRf : R.frames = 0 := by rw [hRe]
  have hRl : R.locals = 0 := by rw [hRe]
  have hRc : R.cells = 0 := by rw [hRe]
  have hRs : R.slots = 0 := by rw [hRe]
  refine lv_aload_n hx hb dX12_texts_0 rfl (lv_at hl 0 rfl) ?_
  refine va_get (D := G) (ci := 12) (v := .ref a_7) (C := RX12) (T := TX12) (N := 38) hx hb hts (mm_i inlX12) hown hK.1 hP 0 rfl rfl 17 (by decide) (mm_h hts mm_w149) (fun _ h9 => h9) rfl dX12_texts_1 ?_
  refine lv_iconst (v := 4) hx hb dX12_texts_4 (by decide) ?_
  refine va_iald hx hb hK.1 hP 1 1 rfl rfl (mm_in mm_k4 (by decide)) dX12_texts_5 ?_
  refine lv_topi (fun v1 ev1 => ?_)
  obtain rfl : v1 = 0 := ev1
  subst hAe
  rw [hQ]
  exact W.iret (v := 0) hx hb hr (fun t ht hW => ⟨⟨0, (), rfl, rfl, by rw [ht]; exact hP, hK.warm hW, hD⟩, hS.F ht⟩) hS.2.2 dX12_texts_6

set_option maxHeartbeats 4000000 in
set_option maxRecDepth 100000 in
theorem K116_X12_isText (l : Launch) (G : va_G) (cy : Nat → ClassId) (sz : Nat) (a_0 : Nat) (j_0 : Int64) (k_0 : Int32) (a_1 : Nat) (a_2 : Nat) (a_3 : Nat) (a_4 : Nat) (a_5 : Nat) (k_1 : Int32) (k_2 : Int32) (k_3 : Int32) (k_4 : Int32) (k_5 : Int32) (k_6 : Int64) (k_7 : Int32) (k_8 : Int32) (k_9 : Int32) (k_10 : Int32) (a_6 : Nat) (a_7 : Nat) (a_8 : Nat) (a_9 : Nat) (a_10 : Nat) (a_11 : Nat) (a_12 : Nat) (a_13 : Nat) (a_14 : Nat) (a_15 : Nat) (a_16 : Nat) (a_17 : Nat) (a_18 : Nat) (k_11 : Int32) (k_12 : Int32) (k_13 : Int32) (k_14 : Int32) (k_15 : Int32) (k_16 : Int32) (a_19 : Nat) (k_17 : Int32) (a_20 : Nat) (h0 : mm_rl j_0 (-2147483648) 2147483647)  : mm_CI l yX12_isText (mm_ws yX12_isText cX12_isText 3 (some .boolean)) ({ frames := 1, cells := 0, slots := 0, locals := 25 } : Room) G cy sz [(a_0, .inr (12, [.int k_0, .ref a_1, .ref a_2, .ref a_3, .ref a_4, .ref a_5, .int k_1, .int k_2, .int k_3, .int k_4, .int k_5, .long k_6, .int k_7, .int k_8, .int k_9, .int k_10, .ref a_6, .ref a_7, .ref a_8, .ref a_9, .ref a_10, .ref a_11, .ref a_12, .ref a_13, .ref a_14, .ref a_15, .ref a_16, .ref a_17, .ref a_18, .int k_11, .int k_12, .int k_13, .int k_14, .int k_15, .int k_16, .ref a_19, .int k_17, .ref a_20])), (a_7, .inl (cy 1, 30, .inl (fun _ => 0)))] [.ref a_0, .long j_0] (fun u : Unit => [(a_0, .inr (12, [.int k_0, .ref a_1, .ref a_2, .ref a_3, .ref a_4, .ref a_5, .int k_1, .int k_2, .int k_3, .int k_4, .int k_5, .long k_6, .int k_7, .int k_8, .int k_9, .int k_10, .ref a_6, .ref a_7, .ref a_8, .ref a_9, .ref a_10, .ref a_11, .ref a_12, .ref a_13, .ref a_14, .ref a_15, .ref a_16, .ref a_17, .ref a_18, .int k_11, .int k_12, .int k_13, .int k_14, .int k_15, .int k_16, .ref a_19, .int k_17, .ref a_20])), (a_7, .inl (cy 1, 30, .inl (fun _ => 0)))]) (fun (r : Int32) (u : Unit) => 0 = r) 0 0 := by
  refine mm_begin (lv := [(0, .ref a_0), (1, .long j_0)]) (by decide) (Nat.le_of_ble_eq_true rfl) rfl ?_
  intro p e s m below meth c A ls R args Q H locs hRe hQ hAe hx hb hr hlocks hml hown hnm hts hsz hA hS hP hK hD hl
  have hRf : R.frames = 1 := by rw [hRe]
  have hRl : R.locals = 25 := by rw [hRe]
  have hRc : R.cells = 0 := by rw [hRe]
  have hRs : R.slots = 0 := by rw [hRe]
  refine lv_lload_n hx hb dX12_isText_0 rfl (lv_at hl 1 rfl) ?_
  refine lv_lconst (v := 0) hx hb dX12_isText_1 (by decide) ?_
  refine lv_aload_n hx hb dX12_isText_2 rfl (lv_at hl 0 rfl) ?_
  refine mm_finir (va_runV (As := []) (rest := [.long 0, .long j_0]) ⟨hx, hb, hml, hown, hts⟩ (K117_X12_texts l G cy H.size a_0 k_0 a_1 a_2 a_3 a_4 a_5 k_1 k_2 k_3 k_4 k_5 k_6 k_7 k_8 k_9 k_10 a_6 a_7 a_8 a_9 a_10 a_11 a_12 a_13 a_14 a_15 a_16 a_17 a_18 k_11 k_12 k_13 k_14 k_15 k_16 a_19 k_17 a_20 ) (cwV 0 hts (mm_gV mm_w617 mm_w618 mm_w619 mm_w5 mm_w620) rfl rfl rfl hd_X12_texts ⟨by rw [hRf]; exact Nat.le_of_ble_eq_true rfl, by rw [hRl]; exact Nat.le_of_ble_eq_true rfl⟩) (mm_preV hK hP hD [0, 1] rfl rfl 0 rfl rfl rfl) rfl rfl hl.1 rfl (lv_room (Nat.le_of_ble_eq_true rfl)) dX12_isText_3 ⟨by rw [hRc]; exact Nat.le_of_ble_eq_true rfl, by rw [hRs]; exact Nat.le_of_ble_eq_true rfl⟩) hP hD hS hA [0, 1] rfl (fun _ => rfl) ?_
  clear hP hD hS
  clear H locs
  intro v1 _u H locs hw hP hD hS
  subst hw
  refine lv_i2l (v := 0) hx hb dX12_isText_6 (by decide) ?_
  refine lv_lconst (v := 1) hx hb dX12_isText_7 (by decide) ?_
  refine lv_lsub hx hb dX12_isText_8 ?_
  refine lv_topl (fun v2 ev2 => ?_)
  obtain rfl : v2 = (-1) := ev2.trans (by decide)
  refine mm_finir (va_runS (As := [.long j_0, .long 0, .long (-1)]) (rest := []) ⟨hx, hb, hml, hown, hts⟩ (K109_X12_in l G cy H.size j_0 h0) (va_cwS 3 hts (mm_gS mm_w191 mm_w192 mm_w5 mm_w193) rfl rfl rfl hs_X12_in ⟨by rw [hRf]; exact Nat.le_of_ble_eq_true rfl, by rw [hRl]; exact Nat.le_of_ble_eq_true rfl⟩) (mm_preS hK hP hD [] rfl rfl) rfl rfl hl.1 rfl (lv_room (Nat.le_of_ble_eq_true rfl)) dX12_isText_9 ⟨by rw [hRc]; exact Nat.le_of_ble_eq_true rfl, by rw [hRs]; exact Nat.le_of_ble_eq_true rfl⟩) hP hD hS hA [] rfl (fun _ => rfl) ?_
  clear hP hD hS
  clear H locs
  intro v3 _u H locs hw hP hD hS
  subst hw
  subst hAe
  rw [hQ]
  exact W.zret (v := 0) hx hb hr rfl (fun t ht hW => ⟨⟨0, (), rfl, rfl, by rw [ht]; exact hP, hK.warm hW, hD⟩, hS.F ht⟩) hS.2.2 dX12_isText_12

set_option maxHeartbeats 4000000 in
set_option maxRecDepth 100000 in
theorem K119_X12_texts (l : Launch) (G : va_G) (cy : Nat → ClassId) (sz : Nat) (a_0 : Nat) (k_0 : Int32) (a_1 : Nat) (a_2 : Nat) (a_3 : Nat) (a_4 : Nat) (a_5 : Nat) (i_0 : Int32) (i_1 : Int32) (i_2 : Int32) (i_3 : Int32) (i_4 : Int32) (j_0 : Int64) (i_5 : Int32) (i_6 : Int32) (i_7 : Int32) (i_8 : Int32) (a_6 : Nat) (a_7 : Nat) (a_8 : Nat) (a_9 : Nat) (a_10 : Nat) (a_11 : Nat) (a_12 : Nat) (a_13 : Nat) (a_14 : Nat) (a_15 : Nat) (a_16 : Nat) (a_17 : Nat) (a_18 : Nat) (i_9 : Int32) (i_10 : Int32) (i_11 : Int32) (i_12 : Int32) (i_13 : Int32) (i_14 : Int32) (a_19 : Nat) (i_15 : Int32) (a_20 : Nat)   : mm_CI l yX12_texts (mm_ws yX12_texts cX12_texts 1 (some .int)) ({ frames := 0, cells := 0, slots := 0, locals := 0 } : Room) G cy sz [(a_0, .inr (12, [.int k_0, .ref a_1, .ref a_2, .ref a_3, .ref a_4, .ref a_5, .int i_0, .int i_1, .int i_2, .int i_3, .int i_4, .long j_0, .int i_5, .int i_6, .int i_7, .int i_8, .ref a_6, .ref a_7, .ref a_8, .ref a_9, .ref a_10, .ref a_11, .ref a_12, .ref a_13, .ref a_14, .ref a_15, .ref a_16, .ref a_17, .ref a_18, .int i_9, .int i_10, .int i_11, .int i_12, .int i_13, .int i_14, .ref a_19, .int i_15, .ref a_20])), (a_7, .inl (cy 1, 30, .inl (fun _ => 0)))] [.ref a_0] (fun u : Unit => [(a_0, .inr (12, [.int k_0, .ref a_1, .ref a_2, .ref a_3, .ref a_4, .ref a_5, .int i_0, .int i_1, .int i_2, .int i_3, .int i_4, .long j_0, .int i_5, .int i_6, .int i_7, .int i_8, .ref a_6, .ref a_7, .ref a_8, .ref a_9, .ref a_10, .ref a_11, .ref a_12, .ref a_13, .ref a_14, .ref a_15, .ref a_16, .ref a_17, .ref a_18, .int i_9, .int i_10, .int i_11, .int i_12, .int i_13, .int i_14, .ref a_19, .int i_15, .ref a_20])), (a_7, .inl (cy 1, 30, .inl (fun _ => 0)))]) (fun (r : Int32) (u : Unit) => 0 = r) 0 0 := by
  refine mm_begin (lv := [(0, .ref a_0)]) (by decide) (Nat.le_of_ble_eq_true rfl) rfl ?_
  intro p e s m below meth c A ls R args Q H locs hRe hQ hAe hx hb hr hlocks hml hown hnm hts hsz hA hS hP hK hD hl
  have hRf : R.frames = 0 := by rw [hRe]
  have hRl : R.locals = 0 := by rw [hRe]
  have hRc : R.cells = 0 := by rw [hRe]
  have hRs : R.slots = 0 := by rw [hRe]
  refine lv_aload_n hx hb dX12_texts_0 rfl (lv_at hl 0 rfl) ?_
  refine va_get (D := G) (ci := 12) (v := .ref a_7) (C := RX12) (T := TX12) (N := 38) hx hb hts (mm_i inlX12) hown hK.1 hP 0 rfl rfl 17 (by decide) (mm_h hts mm_w149) (fun _ h9 => h9) rfl dX12_texts_1 ?_
  refine lv_iconst (v := 4) hx hb dX12_texts_4 (by decide) ?_
  refine va_iald hx hb hK.1 hP 1 1 rfl rfl (mm_in mm_k4 (by decide)) dX12_texts_5 ?_
  refine lv_topi (fun v1 ev1 => ?_)
  obtain rfl : v1 = 0 := ev1
  subst hAe
  rw [hQ]
  exact W.iret (v := 0) hx hb hr (fun t ht hW => ⟨⟨0, (), rfl, rfl, by rw [ht]; exact hP, hK.warm hW, hD⟩, hS.F ht⟩) hS.2.2 dX12_texts_6

set_option maxHeartbeats 4000000 in
set_option maxRecDepth 100000 in
theorem K120_X12_isText (l : Launch) (G : va_G) (cy : Nat → ClassId) (sz : Nat) (a_0 : Nat) (j_0 : Int64) (k_0 : Int32) (a_1 : Nat) (a_2 : Nat) (a_3 : Nat) (a_4 : Nat) (a_5 : Nat) (i_0 : Int32) (i_1 : Int32) (i_2 : Int32) (i_3 : Int32) (i_4 : Int32) (j_1 : Int64) (i_5 : Int32) (i_6 : Int32) (i_7 : Int32) (i_8 : Int32) (a_6 : Nat) (a_7 : Nat) (a_8 : Nat) (a_9 : Nat) (a_10 : Nat) (a_11 : Nat) (a_12 : Nat) (a_13 : Nat) (a_14 : Nat) (a_15 : Nat) (a_16 : Nat) (a_17 : Nat) (a_18 : Nat) (i_9 : Int32) (i_10 : Int32) (i_11 : Int32) (i_12 : Int32) (i_13 : Int32) (i_14 : Int32) (a_19 : Nat) (i_15 : Int32) (a_20 : Nat) (h0 : mm_rl j_0 (-2147483648) 2147483647)  : mm_CI l yX12_isText (mm_ws yX12_isText cX12_isText 3 (some .boolean)) ({ frames := 1, cells := 0, slots := 0, locals := 25 } : Room) G cy sz [(a_0, .inr (12, [.int k_0, .ref a_1, .ref a_2, .ref a_3, .ref a_4, .ref a_5, .int i_0, .int i_1, .int i_2, .int i_3, .int i_4, .long j_1, .int i_5, .int i_6, .int i_7, .int i_8, .ref a_6, .ref a_7, .ref a_8, .ref a_9, .ref a_10, .ref a_11, .ref a_12, .ref a_13, .ref a_14, .ref a_15, .ref a_16, .ref a_17, .ref a_18, .int i_9, .int i_10, .int i_11, .int i_12, .int i_13, .int i_14, .ref a_19, .int i_15, .ref a_20])), (a_7, .inl (cy 1, 30, .inl (fun _ => 0)))] [.ref a_0, .long j_0] (fun u : Unit => [(a_0, .inr (12, [.int k_0, .ref a_1, .ref a_2, .ref a_3, .ref a_4, .ref a_5, .int i_0, .int i_1, .int i_2, .int i_3, .int i_4, .long j_1, .int i_5, .int i_6, .int i_7, .int i_8, .ref a_6, .ref a_7, .ref a_8, .ref a_9, .ref a_10, .ref a_11, .ref a_12, .ref a_13, .ref a_14, .ref a_15, .ref a_16, .ref a_17, .ref a_18, .int i_9, .int i_10, .int i_11, .int i_12, .int i_13, .int i_14, .ref a_19, .int i_15, .ref a_20])), (a_7, .inl (cy 1, 30, .inl (fun _ => 0)))]) (fun (r : Int32) (u : Unit) => 0 = r) 0 0 := by
  refine mm_begin (lv := [(0, .ref a_0), (1, .long j_0)]) (by decide) (Nat.le_of_ble_eq_true rfl) rfl ?_
  intro p e s m below meth c A ls R args Q H locs hRe hQ hAe hx hb hr hlocks hml hown hnm hts hsz hA hS hP hK hD hl
  have hRf : R.frames = 1 := by rw [hRe]
  have hRl : R.locals = 25 := by rw [hRe]
  have hRc : R.cells = 0 := by rw [hRe]
  have hRs : R.slots = 0 := by rw [hRe]
  refine lv_lload_n hx hb dX12_isText_0 rfl (lv_at hl 1 rfl) ?_
  refine lv_lconst (v := 0) hx hb dX12_isText_1 (by decide) ?_
  refine lv_aload_n hx hb dX12_isText_2 rfl (lv_at hl 0 rfl) ?_
  refine mm_finir (va_runV (As := []) (rest := [.long 0, .long j_0]) ⟨hx, hb, hml, hown, hts⟩ (K117_X12_texts l G cy H.size a_0 k_0 a_1 a_2 a_3 a_4 a_5 i_0 i_1 i_2 i_3 i_4 j_1 i_5 i_6 i_7 i_8 a_6 a_7 a_8 a_9 a_10 a_11 a_12 a_13 a_14 a_15 a_16 a_17 a_18 i_9 i_10 i_11 i_12 i_13 i_14 a_19 i_15 a_20 ) (cwV 0 hts (mm_gV mm_w617 mm_w618 mm_w619 mm_w5 mm_w620) rfl rfl rfl hd_X12_texts ⟨by rw [hRf]; exact Nat.le_of_ble_eq_true rfl, by rw [hRl]; exact Nat.le_of_ble_eq_true rfl⟩) (mm_preV hK hP hD [0, 1] rfl rfl 0 rfl rfl rfl) rfl rfl hl.1 rfl (lv_room (Nat.le_of_ble_eq_true rfl)) dX12_isText_3 ⟨by rw [hRc]; exact Nat.le_of_ble_eq_true rfl, by rw [hRs]; exact Nat.le_of_ble_eq_true rfl⟩) hP hD hS hA [0, 1] rfl (fun _ => rfl) ?_
  clear hP hD hS
  clear H locs
  intro v1 _u H locs hw hP hD hS
  subst hw
  refine lv_i2l (v := 0) hx hb dX12_isText_6 (by decide) ?_
  refine lv_lconst (v := 1) hx hb dX12_isText_7 (by decide) ?_
  refine lv_lsub hx hb dX12_isText_8 ?_
  refine lv_topl (fun v2 ev2 => ?_)
  obtain rfl : v2 = (-1) := ev2.trans (by decide)
  refine mm_finir (va_runS (As := [.long j_0, .long 0, .long (-1)]) (rest := []) ⟨hx, hb, hml, hown, hts⟩ (K109_X12_in l G cy H.size j_0 h0) (va_cwS 3 hts (mm_gS mm_w191 mm_w192 mm_w5 mm_w193) rfl rfl rfl hs_X12_in ⟨by rw [hRf]; exact Nat.le_of_ble_eq_true rfl, by rw [hRl]; exact Nat.le_of_ble_eq_true rfl⟩) (mm_preS hK hP hD [] rfl rfl) rfl rfl hl.1 rfl (lv_room (Nat.le_of_ble_eq_true rfl)) dX12_isText_9 ⟨by rw [hRc]; exact Nat.le_of_ble_eq_true rfl, by rw [hRs]; exact Nat.le_of_ble_eq_true rfl⟩) hP hD hS hA [] rfl (fun _ => rfl) ?_
  clear hP hD hS
  clear H locs
  intro v3 _u H locs hw hP hD hS
  subst hw
  subst hAe
  rw [hQ]
  exact W.zret (v := 0) hx hb hr rfl (fun t ht hW => ⟨⟨0, (), rfl, rfl, by rw [ht]; exact hP, hK.warm hW, hD⟩, hS.F ht⟩) hS.2.2 dX12_isText_12

set_option maxHeartbeats 4000000 in
set_option maxRecDepth 100000 in
theorem K118_X12_word (l : Launch) (G : va_G) (cy : Nat → ClassId) (sz : Nat) (a_0 : Nat) (i_0 : Int32) (i_1 : Int32) (a_1 : Nat) (a_2 : Nat) (a_3 : Nat) (a_4 : Nat) (a_5 : Nat) (k_0 : Int32) (k_1 : Int32) (k_2 : Int32) (k_3 : Int32) (k_4 : Int32) (k_5 : Int64) (k_6 : Int32) (k_7 : Int32) (k_8 : Int32) (k_9 : Int32) (a_6 : Nat) (a_7 : Nat) (a_8 : Nat) (a_9 : Nat) (a_10 : Nat) (a_11 : Nat) (a_12 : Nat) (a_13 : Nat) (a_14 : Nat) (a_15 : Nat) (a_16 : Nat) (a_17 : Nat) (a_18 : Nat) (k_10 : Int32) (k_11 : Int32) (k_12 : Int32) (k_13 : Int32) (k_14 : Int32) (k_15 : Int32) (a_19 : Nat) (k_16 : Int32) (a_20 : Nat)   : mm_CI l yX12_word (mm_ws yX12_word cX12_word 3 (some .int)) ({ frames := 2, cells := 0, slots := 0, locals := 47 } : Room) G cy sz [(a_0, .inr (12, [.int 0, .ref a_1, .ref a_2, .ref a_3, .ref a_4, .ref a_5, .int k_0, .int k_1, .int k_2, .int k_3, .int k_4, .long k_5, .int k_6, .int k_7, .int k_8, .int k_9, .ref a_6, .ref a_7, .ref a_8, .ref a_9, .ref a_10, .ref a_11, .ref a_12, .ref a_13, .ref a_14, .ref a_15, .ref a_16, .ref a_17, .ref a_18, .int k_10, .int k_11, .int k_12, .int k_13, .int k_14, .int k_15, .ref a_19, .int k_16, .ref a_20])), (a_7, .inl (cy 1, 30, .inl (fun _ => 0)))] [.ref a_0, .int i_0, .int i_1] (fun u : Unit => [(a_0, .inr (12, [.int 0, .ref a_1, .ref a_2, .ref a_3, .ref a_4, .ref a_5, .int k_0, .int k_1, .int k_2, .int k_3, .int k_4, .long k_5, .int k_6, .int k_7, .int k_8, .int k_9, .ref a_6, .ref a_7, .ref a_8, .ref a_9, .ref a_10, .ref a_11, .ref a_12, .ref a_13, .ref a_14, .ref a_15, .ref a_16, .ref a_17, .ref a_18, .int k_10, .int k_11, .int k_12, .int k_13, .int k_14, .int k_15, .ref a_19, .int k_16, .ref a_20])), (a_7, .inl (cy 1, 30, .inl (fun _ => 0)))]) (fun (r : Int32) (u : Unit) => (-2) = r) 0 0 := by
  refine mm_begin (lv := [(0, .ref a_0), (1, .int i_0), (2, .int i_1)]) (by decide) (Nat.le_of_ble_eq_true rfl) rfl ?_
  intro p e s m below meth c A ls R args Q H locs hRe hQ hAe hx hb hr hlocks hml hown hnm hts hsz hA hS hP hK hD hl
  have hRf : R.frames = 2 := by rw [hRe]
  have hRl : R.locals = 47 := by rw [hRe]
  have hRc : R.cells = 0 := by rw [hRe]
  have hRs : R.slots = 0 := by rw [hRe]
  refine lv_aload_n hx hb dX12_word_0 rfl (lv_at hl 0 rfl) ?_
  refine lv_iconst (v := 0) hx hb dX12_word_1 (by decide) ?_
  refine va_put (D := G) (ci := 12) (v := .int 0) (ty := tyX12 0) (C := RX12) (T := TX12) (N := 38) hx hb hts (mm_i inlX12) tyX12 tyX12_ok nmX12 hown hK.1 hP hD hS 0 rfl rfl 0 (by decide) (mm_h hts mm_w177) (fun _ h9 => h9) rfl (tyX12_ok 0 (by decide)) rfl rfl (Nat.le_of_ble_eq_true rfl) dX12_word_2 ?_
  clear hP hD hS
  clear H locs
  intro H locs (hP : va_P G vwCl [(a_0, .inr (12, [.int 0, .ref a_1, .ref a_2, .ref a_3, .ref a_4, .ref a_5, .int k_0, .int k_1, .int k_2, .int k_3, .int k_4, .long k_5, .int k_6, .int k_7, .int k_8, .int k_9, .ref a_6, .ref a_7, .ref a_8, .ref a_9, .ref a_10, .ref a_11, .ref a_12, .ref a_13, .ref a_14, .ref a_15, .ref a_16, .ref a_17, .ref a_18, .int k_10, .int k_11, .int k_12, .int k_13, .int k_14, .int k_15, .ref a_19, .int k_16, .ref a_20])), (a_7, .inl (cy 1, 30, .inl (fun _ => 0)))] H) (hD : va_D A [(a_0, .inr (12, [.int 0, .ref a_1, .ref a_2, .ref a_3, .ref a_4, .ref a_5, .int k_0, .int k_1, .int k_2, .int k_3, .int k_4, .long k_5, .int k_6, .int k_7, .int k_8, .int k_9, .ref a_6, .ref a_7, .ref a_8, .ref a_9, .ref a_10, .ref a_11, .ref a_12, .ref a_13, .ref a_14, .ref a_15, .ref a_16, .ref a_17, .ref a_18, .int k_10, .int k_11, .int k_12, .int k_13, .int k_14, .int k_15, .ref a_19, .int k_16, .ref a_20])), (a_7, .inl (cy 1, 30, .inl (fun _ => 0)))]) hS
  refine lv_aload_n hx hb dX12_word_5 rfl (lv_at hl 0 rfl) ?_
  refine lv_iload_n hx hb dX12_word_6 rfl (lv_at hl 1 rfl) ?_
  obtain ⟨v1, ev1⟩ : ∃ y : Int64, y = i_0.toInt64 := ⟨_, rfl⟩
  refine lv_i2l hx hb dX12_word_7 ev1.symm ?_
  have rv1 : mm_rl v1 (-2147483648) 2147483647 := mm_i2l ev1 (mm_top i_0)
  refine mm_finir (va_runV (As := [.long v1]) (rest := []) ⟨hx, hb, hml, hown, hts⟩ (K120_X12_isText l G cy H.size a_0 v1 0 a_1 a_2 a_3 a_4 a_5 k_0 k_1 k_2 k_3 k_4 k_5 k_6 k_7 k_8 k_9 a_6 a_7 a_8 a_9 a_10 a_11 a_12 a_13 a_14 a_15 a_16 a_17 a_18 k_10 k_11 k_12 k_13 k_14 k_15 a_19 k_16 a_20 rv1) (cwV 1 hts (mm_gV mm_w613 mm_w614 mm_w615 mm_w5 mm_w616) rfl rfl rfl hd_X12_isText ⟨by rw [hRf]; exact Nat.le_of_ble_eq_true rfl, by rw [hRl]; exact Nat.le_of_ble_eq_true rfl⟩) (mm_preV hK hP hD [0, 1] rfl rfl 0 rfl rfl rfl) rfl rfl hl.1 rfl (lv_room (Nat.le_of_ble_eq_true rfl)) dX12_word_8 ⟨by rw [hRc]; exact Nat.le_of_ble_eq_true rfl, by rw [hRs]; exact Nat.le_of_ble_eq_true rfl⟩) hP hD hS hA [0, 1] rfl (fun _ => rfl) ?_
  clear hP hD hS
  clear H locs
  intro v2 _u H locs hw hP hD hS
  subst hw
  refine lv_if_ne (tgt := 17) hx hb dX12_word_11 (by decide) (fun c3 => ?_) (fun c3 => ?_)
  · have q4 := mm_neL (lo := 1) (mm_ne c3) mm_k0 mm_k0 (by decide) (by decide)
    exact mm_no q4 (by decide)
  · refine lv_bipush (v := (-2)) hx hb dX12_word_14 (by decide) ?_
    subst hAe
    rw [hQ]
    exact W.iret (v := (-2)) hx hb hr (fun t ht hW => ⟨⟨(-2), (), rfl, rfl, by rw [ht]; exact hP, hK.warm hW, hD⟩, hS.F ht⟩) hS.2.2 dX12_word_16

set_option maxHeartbeats 4000000 in
set_option maxRecDepth 100000 in
theorem K121_X11_isLand (l : Launch) (G : va_G) (cy : Nat → ClassId) (sz : Nat) (a_0 : Nat) (i_0 : Int32) (a_1 : Nat) (a_2 : Nat) (a_3 : Nat) (a_4 : Nat) (a_5 : Nat) (a_6 : Nat) (a_7 : Nat) (a_8 : Nat) (a_9 : Nat) (a_10 : Nat) (a_11 : Nat) (a_24 : Nat) (a_25 : Nat) (k_0 : Int32) (k_1 : Int32) (k_2 : Int32) (k_3 : Int32) (k_4 : Int32) (k_5 : Int32) (k_6 : Int32) (a_26 : Nat) (a_27 : Nat) (a_28 : Nat) (a_29 : Nat) (a_30 : Nat) (a_31 : Nat) (a_32 : Nat) (a_33 : Nat) (a_34 : Nat) (a_35 : Nat)   : mm_CI l yX11_isLand (mm_ws yX11_isLand cX11_isLand 2 (some .boolean)) ({ frames := 0, cells := 0, slots := 0, locals := 0 } : Room) G cy sz [(a_0, .inr (11, [.ref a_1, .ref a_2, .ref a_3, .ref a_4, .ref a_5, .ref a_6, .ref a_7, .ref a_8, .ref a_9, .ref a_10, .ref a_11])), (a_3, .inr (10, [.ref a_24, .ref a_25])), (a_24, .inr (0, [.int k_0, .int k_1, .int k_2, .int k_3, .int k_4, .int 0, .int k_5, .int k_6, .ref a_26, .ref a_27, .ref a_28, .ref a_29, .ref a_30, .ref a_31, .ref a_32, .ref a_33, .ref a_34, .ref a_35]))] [.ref a_0, .int i_0] (fun u : Unit => [(a_0, .inr (11, [.ref a_1, .ref a_2, .ref a_3, .ref a_4, .ref a_5, .ref a_6, .ref a_7, .ref a_8, .ref a_9, .ref a_10, .ref a_11])), (a_3, .inr (10, [.ref a_24, .ref a_25])), (a_24, .inr (0, [.int k_0, .int k_1, .int k_2, .int k_3, .int k_4, .int 0, .int k_5, .int k_6, .ref a_26, .ref a_27, .ref a_28, .ref a_29, .ref a_30, .ref a_31, .ref a_32, .ref a_33, .ref a_34, .ref a_35]))]) (fun (r : Int32) (u : Unit) => 0 = r) 0 0 := by
  refine mm_begin (lv := [(0, .ref a_0), (1, .int i_0)]) (by decide) (Nat.le_of_ble_eq_true rfl) rfl ?_
  intro p e s m below meth c A ls R args Q H locs hRe hQ hAe hx hb hr hlocks hml hown hnm hts hsz hA hS hP hK hD hl
  have hRf : R.frames = 0 := by rw [hRe]
  have hRl : R.locals = 0 := by rw [hRe]
  have hRc : R.cells = 0 := by rw [hRe]
  have hRs : R.slots = 0 := by rw [hRe]
  refine lv_iload_n hx hb dX11_isLand_0 rfl (lv_at hl 1 rfl) ?_
  refine lv_if_lt (tgt := 22) hx hb dX11_isLand_1 (by decide) (fun c1 => ?_) (fun c1 => ?_)
  · have q2 := mm_ltL (h := (-1)) (mm_lt c1) (mm_top i_0) mm_k0 (by decide)
    refine lv_iconst (v := 0) hx hb dX11_isLand_22 (by decide) ?_
    subst hAe
    rw [hQ]
    exact W.zret (v := 0) hx hb hr rfl (fun t ht hW => ⟨⟨0, (), rfl, rfl, by rw [ht]; exact hP, hK.warm hW, hD⟩, hS.F ht⟩) hS.2.2 dX11_isLand_23
  · have q3 := mm_leR (mm_nlt c1) mm_k0 (mm_top i_0)
    refine lv_iload_n hx hb dX11_isLand_4 rfl (lv_at hl 1 rfl) ?_
    refine lv_aload_n hx hb dX11_isLand_5 rfl (lv_at hl 0 rfl) ?_
    refine va_get (D := G) (ci := 11) (v := .ref a_3) (C := RX11) (T := TX11) (N := 11) hx hb hts (mm_i inlX11) hown hK.1 hP 0 rfl rfl 2 (by decide) (mm_h hts mm_w24) (fun _ h9 => h9) rfl dX11_isLand_6 ?_
    refine va_get (D := G) (ci := 10) (v := .ref a_24) (C := RX10) (T := TX10) (N := 2) hx hb hts (mm_i inlX10) hown hK.1 hP 1 rfl rfl 0 (by decide) (mm_h hts mm_w199) (fun _ h9 => h9) rfl dX11_isLand_9 ?_
    refine va_get (D := G) (ci := 0) (v := .int 0) (C := RX0) (T := TX0) (N := 18) hx hb hts (mm_i inlX0) hown hK.1 hP 2 rfl rfl 5 (by decide) (mm_h hts mm_w630) (fun _ h9 => h9) rfl dX11_isLand_12 ?_
    refine lv_icmp_ge (tgt := 22) hx hb dX11_isLand_15 (by decide) (fun c4 => ?_) (fun c4 => ?_)
    · refine lv_iconst (v := 0) hx hb dX11_isLand_22 (by decide) ?_
      subst hAe
      rw [hQ]
      exact W.zret (v := 0) hx hb hr rfl (fun t ht hW => ⟨⟨0, (), rfl, rfl, by rw [ht]; exact hP, hK.warm hW, hD⟩, hS.F ht⟩) hS.2.2 dX11_isLand_23
    · have q5 := mm_ltL (h := (-1)) (mm_nle c4) q3 mm_k0 (by decide)
      exact mm_no q5 (by decide)

set_option maxHeartbeats 4000000 in
set_option maxRecDepth 100000 in
theorem K123_X11_isLand (l : Launch) (G : va_G) (cy : Nat → ClassId) (sz : Nat) (a_0 : Nat) (i_0 : Int32) (a_1 : Nat) (a_2 : Nat) (a_3 : Nat) (a_4 : Nat) (a_5 : Nat) (a_6 : Nat) (a_7 : Nat) (a_8 : Nat) (a_9 : Nat) (a_10 : Nat) (a_11 : Nat) (a_12 : Nat) (a_13 : Nat) (i_1 : Int32) (i_2 : Int32) (i_3 : Int32) (i_4 : Int32) (i_5 : Int32) (i_6 : Int32) (i_7 : Int32) (a_14 : Nat) (a_15 : Nat) (a_16 : Nat) (a_17 : Nat) (a_18 : Nat) (a_19 : Nat) (a_20 : Nat) (a_21 : Nat) (a_22 : Nat) (a_23 : Nat)   : mm_CI l yX11_isLand (mm_ws yX11_isLand cX11_isLand 2 (some .boolean)) ({ frames := 0, cells := 0, slots := 0, locals := 0 } : Room) G cy sz [(a_0, .inr (11, [.ref a_1, .ref a_2, .ref a_3, .ref a_4, .ref a_5, .ref a_6, .ref a_7, .ref a_8, .ref a_9, .ref a_10, .ref a_11])), (a_3, .inr (10, [.ref a_12, .ref a_13])), (a_12, .inr (0, [.int i_1, .int i_2, .int i_3, .int i_4, .int i_5, .int 0, .int i_6, .int i_7, .ref a_14, .ref a_15, .ref a_16, .ref a_17, .ref a_18, .ref a_19, .ref a_20, .ref a_21, .ref a_22, .ref a_23]))] [.ref a_0, .int i_0] (fun u : Unit => [(a_0, .inr (11, [.ref a_1, .ref a_2, .ref a_3, .ref a_4, .ref a_5, .ref a_6, .ref a_7, .ref a_8, .ref a_9, .ref a_10, .ref a_11])), (a_3, .inr (10, [.ref a_12, .ref a_13])), (a_12, .inr (0, [.int i_1, .int i_2, .int i_3, .int i_4, .int i_5, .int 0, .int i_6, .int i_7, .ref a_14, .ref a_15, .ref a_16, .ref a_17, .ref a_18, .ref a_19, .ref a_20, .ref a_21, .ref a_22, .ref a_23]))]) (fun (r : Int32) (u : Unit) => 0 = r) 0 0 := by
  refine mm_begin (lv := [(0, .ref a_0), (1, .int i_0)]) (by decide) (Nat.le_of_ble_eq_true rfl) rfl ?_
  intro p e s m below meth c A ls R args Q H locs hRe hQ hAe hx hb hr hlocks hml hown hnm hts hsz hA hS hP hK hD hl
  have hRf : R.frames = 0 := by rw [hRe]
  have hRl : R.locals = 0 := by rw [hRe]
  have hRc : R.cells = 0 := by rw [hRe]
  have hRs : R.slots = 0 := by rw [hRe]
  refine lv_iload_n hx hb dX11_isLand_0 rfl (lv_at hl 1 rfl) ?_
  refine lv_if_lt (tgt := 22) hx hb dX11_isLand_1 (by decide) (fun c1 => ?_) (fun c1 => ?_)
  · have q2 := mm_ltL (h := (-1)) (mm_lt c1) (mm_top i_0) mm_k0 (by decide)
    refine lv_iconst (v := 0) hx hb dX11_isLand_22 (by decide) ?_
    subst hAe
    rw [hQ]
    exact W.zret (v := 0) hx hb hr rfl (fun t ht hW => ⟨⟨0, (), rfl, rfl, by rw [ht]; exact hP, hK.warm hW, hD⟩, hS.F ht⟩) hS.2.2 dX11_isLand_23
  · have q3 := mm_leR (mm_nlt c1) mm_k0 (mm_top i_0)
    refine lv_iload_n hx hb dX11_isLand_4 rfl (lv_at hl 1 rfl) ?_
    refine lv_aload_n hx hb dX11_isLand_5 rfl (lv_at hl 0 rfl) ?_
    refine va_get (D := G) (ci := 11) (v := .ref a_3) (C := RX11) (T := TX11) (N := 11) hx hb hts (mm_i inlX11) hown hK.1 hP 0 rfl rfl 2 (by decide) (mm_h hts mm_w24) (fun _ h9 => h9) rfl dX11_isLand_6 ?_
    refine va_get (D := G) (ci := 10) (v := .ref a_12) (C := RX10) (T := TX10) (N := 2) hx hb hts (mm_i inlX10) hown hK.1 hP 1 rfl rfl 0 (by decide) (mm_h hts mm_w199) (fun _ h9 => h9) rfl dX11_isLand_9 ?_
    refine va_get (D := G) (ci := 0) (v := .int 0) (C := RX0) (T := TX0) (N := 18) hx hb hts (mm_i inlX0) hown hK.1 hP 2 rfl rfl 5 (by decide) (mm_h hts mm_w630) (fun _ h9 => h9) rfl dX11_isLand_12 ?_
    refine lv_icmp_ge (tgt := 22) hx hb dX11_isLand_15 (by decide) (fun c4 => ?_) (fun c4 => ?_)
    · refine lv_iconst (v := 0) hx hb dX11_isLand_22 (by decide) ?_
      subst hAe
      rw [hQ]
      exact W.zret (v := 0) hx hb hr rfl (fun t ht hW => ⟨⟨0, (), rfl, rfl, by rw [ht]; exact hP, hK.warm hW, hD⟩, hS.F ht⟩) hS.2.2 dX11_isLand_23
    · have q5 := mm_ltL (h := (-1)) (mm_nle c4) q3 mm_k0 (by decide)
      exact mm_no q5 (by decide)

set_option maxHeartbeats 4000000 in
set_option maxRecDepth 100000 in
theorem K122_X11_rule (l : Launch) (G : va_G) (cy : Nat → ClassId) (sz : Nat) (a_0 : Nat) (i_0 : Int32) (i_1 : Int32) (i_2 : Int32) (a_1 : Nat) (a_2 : Nat) (a_3 : Nat) (a_4 : Nat) (a_5 : Nat) (a_6 : Nat) (a_7 : Nat) (a_8 : Nat) (a_9 : Nat) (a_10 : Nat) (a_11 : Nat) (a_24 : Nat) (a_25 : Nat) (k_0 : Int32) (k_1 : Int32) (k_2 : Int32) (k_3 : Int32) (k_4 : Int32) (k_5 : Int32) (k_6 : Int32) (a_26 : Nat) (a_27 : Nat) (a_28 : Nat) (a_29 : Nat) (a_30 : Nat) (a_31 : Nat) (a_32 : Nat) (a_33 : Nat) (a_34 : Nat) (a_35 : Nat)   : mm_CI l yX11_rule (mm_ws yX11_rule cX11_rule 4 (some .int)) ({ frames := 1, cells := 0, slots := 0, locals := 21 } : Room) G cy sz [(a_0, .inr (11, [.ref a_1, .ref a_2, .ref a_3, .ref a_4, .ref a_5, .ref a_6, .ref a_7, .ref a_8, .ref a_9, .ref a_10, .ref a_11])), (a_3, .inr (10, [.ref a_24, .ref a_25])), (a_24, .inr (0, [.int k_0, .int k_1, .int k_2, .int k_3, .int k_4, .int 0, .int k_5, .int k_6, .ref a_26, .ref a_27, .ref a_28, .ref a_29, .ref a_30, .ref a_31, .ref a_32, .ref a_33, .ref a_34, .ref a_35]))] [.ref a_0, .int i_0, .int i_1, .int i_2] (fun u : Unit => [(a_0, .inr (11, [.ref a_1, .ref a_2, .ref a_3, .ref a_4, .ref a_5, .ref a_6, .ref a_7, .ref a_8, .ref a_9, .ref a_10, .ref a_11])), (a_3, .inr (10, [.ref a_24, .ref a_25])), (a_24, .inr (0, [.int k_0, .int k_1, .int k_2, .int k_3, .int k_4, .int 0, .int k_5, .int k_6, .ref a_26, .ref a_27, .ref a_28, .ref a_29, .ref a_30, .ref a_31, .ref a_32, .ref a_33, .ref a_34, .ref a_35]))]) (fun (r : Int32) (u : Unit) => (-2) = r) 0 0 := by
  refine mm_begin (lv := [(0, .ref a_0), (1, .int i_0), (2, .int i_1), (3, .int i_2)]) (by decide) (Nat.le_of_ble_eq_true rfl) rfl ?_
  intro p e s m below meth c A ls R args Q H locs hRe hQ hAe hx hb hr hlocks hml hown hnm hts hsz hA hS hP hK hD hl
  have hRf : R.frames = 1 := by rw [hRe]
  have hRl : R.locals = 21 := by rw [hRe]
  have hRc : R.cells = 0 := by rw [hRe]
  have hRs : R.slots = 0 := by rw [hRe]
  refine lv_aload_n hx hb dX11_rule_0 rfl (lv_at hl 0 rfl) ?_
  refine lv_iload_n hx hb dX11_rule_1 rfl (lv_at hl 1 rfl) ?_
  refine mm_finir (va_runV (As := [.int i_0]) (rest := []) ⟨hx, hb, hml, hown, hts⟩ (K123_X11_isLand l G cy H.size a_0 i_0 a_1 a_2 a_3 a_4 a_5 a_6 a_7 a_8 a_9 a_10 a_11 a_24 a_25 k_0 k_1 k_2 k_3 k_4 k_5 k_6 a_26 a_27 a_28 a_29 a_30 a_31 a_32 a_33 a_34 a_35 ) (cwV 1 hts (mm_gV mm_w626 mm_w627 mm_w628 mm_w2 mm_w629) rfl rfl rfl hd_X11_isLand ⟨by rw [hRf]; exact Nat.le_of_ble_eq_true rfl, by rw [hRl]; exact Nat.le_of_ble_eq_true rfl⟩) (mm_preV hK hP hD [0, 1, 2] rfl rfl 0 rfl rfl rfl) rfl rfl hl.1 rfl (lv_room (Nat.le_of_ble_eq_true rfl)) dX11_rule_2 ⟨by rw [hRc]; exact Nat.le_of_ble_eq_true rfl, by rw [hRs]; exact Nat.le_of_ble_eq_true rfl⟩) hP hD hS hA [0, 1, 2] rfl (fun _ => rfl) ?_
  clear hP hD hS
  clear H locs
  intro v1 _u H locs hw hP hD hS
  subst hw
  refine lv_if_eq (tgt := 36) hx hb dX11_rule_5 (by decide) (fun c2 => ?_) (fun c2 => ?_)
  · refine lv_bipush (v := (-2)) hx hb dX11_rule_36 (by decide) ?_
    subst hAe
    rw [hQ]
    exact W.iret (v := (-2)) hx hb hr (fun t ht hW => ⟨⟨(-2), (), rfl, rfl, by rw [ht]; exact hP, hK.warm hW, hD⟩, hS.F ht⟩) hS.2.2 dX11_rule_38
  · have q3 := mm_neL (lo := 1) (mm_ne c2) mm_k0 mm_k0 (by decide) (by decide)
    exact mm_no q3 (by decide)

set_option maxHeartbeats 4000000 in
set_option maxRecDepth 100000 in
theorem K124_X12_isLand (l : Launch) (G : va_G) (cy : Nat → ClassId) (sz : Nat) (a_0 : Nat) (i_0 : Int32) (k_0 : Int32) (a_1 : Nat) (a_2 : Nat) (a_3 : Nat) (a_4 : Nat) (a_5 : Nat) (k_1 : Int32) (k_2 : Int32) (k_3 : Int32) (k_4 : Int32) (k_5 : Int32) (k_6 : Int64) (k_7 : Int32) (k_8 : Int32) (k_9 : Int32) (k_10 : Int32) (a_6 : Nat) (a_7 : Nat) (a_8 : Nat) (a_9 : Nat) (a_10 : Nat) (a_11 : Nat) (a_12 : Nat) (a_13 : Nat) (a_14 : Nat) (a_15 : Nat) (a_16 : Nat) (a_17 : Nat) (a_18 : Nat) (k_11 : Int32) (k_12 : Int32) (k_13 : Int32) (k_14 : Int32) (k_15 : Int32) (k_16 : Int32) (a_19 : Nat) (k_17 : Int32) (a_20 : Nat)   : mm_CI l yX12_isLand (mm_ws yX12_isLand cX12_isLand 2 (some .boolean)) ({ frames := 1, cells := 0, slots := 0, locals := 25 } : Room) G cy sz [(a_0, .inr (12, [.int k_0, .ref a_1, .ref a_2, .ref a_3, .ref a_4, .ref a_5, .int k_1, .int k_2, .int k_3, .int k_4, .int k_5, .long k_6, .int k_7, .int k_8, .int k_9, .int k_10, .ref a_6, .ref a_7, .ref a_8, .ref a_9, .ref a_10, .ref a_11, .ref a_12, .ref a_13, .ref a_14, .ref a_15, .ref a_16, .ref a_17, .ref a_18, .int k_11, .int k_12, .int k_13, .int k_14, .int k_15, .int k_16, .ref a_19, .int k_17, .ref a_20])), (a_7, .inl (cy 1, 30, .inl (fun _ => 0)))] [.ref a_0, .int i_0] (fun u : Unit => [(a_0, .inr (12, [.int k_0, .ref a_1, .ref a_2, .ref a_3, .ref a_4, .ref a_5, .int k_1, .int k_2, .int k_3, .int k_4, .int k_5, .long k_6, .int k_7, .int k_8, .int k_9, .int k_10, .ref a_6, .ref a_7, .ref a_8, .ref a_9, .ref a_10, .ref a_11, .ref a_12, .ref a_13, .ref a_14, .ref a_15, .ref a_16, .ref a_17, .ref a_18, .int k_11, .int k_12, .int k_13, .int k_14, .int k_15, .int k_16, .ref a_19, .int k_17, .ref a_20])), (a_7, .inl (cy 1, 30, .inl (fun _ => 0)))]) (fun (r : Int32) (u : Unit) => 0 = r) 0 0 := by
  refine mm_begin (lv := [(0, .ref a_0), (1, .int i_0)]) (by decide) (Nat.le_of_ble_eq_true rfl) rfl ?_
  intro p e s m below meth c A ls R args Q H locs hRe hQ hAe hx hb hr hlocks hml hown hnm hts hsz hA hS hP hK hD hl
  have hRf : R.frames = 1 := by rw [hRe]
  have hRl : R.locals = 25 := by rw [hRe]
  have hRc : R.cells = 0 := by rw [hRe]
  have hRs : R.slots = 0 := by rw [hRe]
  refine lv_iload_n hx hb dX12_isLand_0 rfl (lv_at hl 1 rfl) ?_
  obtain ⟨v1, ev1⟩ : ∃ y : Int64, y = i_0.toInt64 := ⟨_, rfl⟩
  refine lv_i2l hx hb dX12_isLand_1 ev1.symm ?_
  have rv1 : mm_rl v1 (-2147483648) 2147483647 := mm_i2l ev1 (mm_top i_0)
  refine lv_lconst (v := 0) hx hb dX12_isLand_2 (by decide) ?_
  refine lv_aload_n hx hb dX12_isLand_3 rfl (lv_at hl 0 rfl) ?_
  refine va_get (D := G) (ci := 12) (v := .ref a_7) (C := RX12) (T := TX12) (N := 38) hx hb hts (mm_i inlX12) hown hK.1 hP 0 rfl rfl 17 (by decide) (mm_h hts mm_w149) (fun _ h9 => h9) rfl dX12_isLand_4 ?_
  refine lv_iconst (v := 3) hx hb dX12_isLand_7 (by decide) ?_
  refine va_iald hx hb hK.1 hP 1 1 rfl rfl (mm_in mm_k3 (by decide)) dX12_isLand_8 ?_
  refine lv_topi (fun v2 ev2 => ?_)
  obtain rfl : v2 = 0 := ev2
  refine lv_i2l (v := 0) hx hb dX12_isLand_9 (by decide) ?_
  refine lv_lconst (v := 1) hx hb dX12_isLand_10 (by decide) ?_
  refine lv_lsub hx hb dX12_isLand_11 ?_
  refine lv_topl (fun v3 ev3 => ?_)
  obtain rfl : v3 = (-1) := ev3.trans (by decide)
  refine mm_finir (va_runS (As := [.long v1, .long 0, .long (-1)]) (rest := []) ⟨hx, hb, hml, hown, hts⟩ (K109_X12_in l G cy H.size v1 rv1) (va_cwS 3 hts (mm_gS mm_w191 mm_w192 mm_w5 mm_w193) rfl rfl rfl hs_X12_in ⟨by rw [hRf]; exact Nat.le_of_ble_eq_true rfl, by rw [hRl]; exact Nat.le_of_ble_eq_true rfl⟩) (mm_preS hK hP hD [] rfl rfl) rfl rfl hl.1 rfl (lv_room (Nat.le_of_ble_eq_true rfl)) dX12_isLand_12 ⟨by rw [hRc]; exact Nat.le_of_ble_eq_true rfl, by rw [hRs]; exact Nat.le_of_ble_eq_true rfl⟩) hP hD hS hA [] rfl (fun _ => rfl) ?_
  clear hP hD hS
  clear H locs
  intro v4 _u H locs hw hP hD hS
  subst hw
  subst hAe
  rw [hQ]
  exact W.zret (v := 0) hx hb hr rfl (fun t ht hW => ⟨⟨0, (), rfl, rfl, by rw [ht]; exact hP, hK.warm hW, hD⟩, hS.F ht⟩) hS.2.2 dX12_isLand_15

set_option maxHeartbeats 4000000 in
set_option maxRecDepth 100000 in
theorem K126_X12_isLand (l : Launch) (G : va_G) (cy : Nat → ClassId) (sz : Nat) (a_0 : Nat) (i_0 : Int32) (k_0 : Int32) (a_1 : Nat) (a_2 : Nat) (a_3 : Nat) (a_4 : Nat) (a_5 : Nat) (i_1 : Int32) (i_2 : Int32) (i_3 : Int32) (i_4 : Int32) (i_5 : Int32) (j_0 : Int64) (i_6 : Int32) (i_7 : Int32) (i_8 : Int32) (i_9 : Int32) (a_6 : Nat) (a_7 : Nat) (a_8 : Nat) (a_9 : Nat) (a_10 : Nat) (a_11 : Nat) (a_12 : Nat) (a_13 : Nat) (a_14 : Nat) (a_15 : Nat) (a_16 : Nat) (a_17 : Nat) (a_18 : Nat) (i_10 : Int32) (i_11 : Int32) (i_12 : Int32) (i_13 : Int32) (i_14 : Int32) (i_15 : Int32) (a_19 : Nat) (i_16 : Int32) (a_20 : Nat)   : mm_CI l yX12_isLand (mm_ws yX12_isLand cX12_isLand 2 (some .boolean)) ({ frames := 1, cells := 0, slots := 0, locals := 25 } : Room) G cy sz [(a_0, .inr (12, [.int k_0, .ref a_1, .ref a_2, .ref a_3, .ref a_4, .ref a_5, .int i_1, .int i_2, .int i_3, .int i_4, .int i_5, .long j_0, .int i_6, .int i_7, .int i_8, .int i_9, .ref a_6, .ref a_7, .ref a_8, .ref a_9, .ref a_10, .ref a_11, .ref a_12, .ref a_13, .ref a_14, .ref a_15, .ref a_16, .ref a_17, .ref a_18, .int i_10, .int i_11, .int i_12, .int i_13, .int i_14, .int i_15, .ref a_19, .int i_16, .ref a_20])), (a_7, .inl (cy 1, 30, .inl (fun _ => 0)))] [.ref a_0, .int i_0] (fun u : Unit => [(a_0, .inr (12, [.int k_0, .ref a_1, .ref a_2, .ref a_3, .ref a_4, .ref a_5, .int i_1, .int i_2, .int i_3, .int i_4, .int i_5, .long j_0, .int i_6, .int i_7, .int i_8, .int i_9, .ref a_6, .ref a_7, .ref a_8, .ref a_9, .ref a_10, .ref a_11, .ref a_12, .ref a_13, .ref a_14, .ref a_15, .ref a_16, .ref a_17, .ref a_18, .int i_10, .int i_11, .int i_12, .int i_13, .int i_14, .int i_15, .ref a_19, .int i_16, .ref a_20])), (a_7, .inl (cy 1, 30, .inl (fun _ => 0)))]) (fun (r : Int32) (u : Unit) => 0 = r) 0 0 := by
  refine mm_begin (lv := [(0, .ref a_0), (1, .int i_0)]) (by decide) (Nat.le_of_ble_eq_true rfl) rfl ?_
  intro p e s m below meth c A ls R args Q H locs hRe hQ hAe hx hb hr hlocks hml hown hnm hts hsz hA hS hP hK hD hl
  have hRf : R.frames = 1 := by rw [hRe]
  have hRl : R.locals = 25 := by rw [hRe]
  have hRc : R.cells = 0 := by rw [hRe]
  have hRs : R.slots = 0 := by rw [hRe]
  refine lv_iload_n hx hb dX12_isLand_0 rfl (lv_at hl 1 rfl) ?_
  obtain ⟨v1, ev1⟩ : ∃ y : Int64, y = i_0.toInt64 := ⟨_, rfl⟩
  refine lv_i2l hx hb dX12_isLand_1 ev1.symm ?_
  have rv1 : mm_rl v1 (-2147483648) 2147483647 := mm_i2l ev1 (mm_top i_0)
  refine lv_lconst (v := 0) hx hb dX12_isLand_2 (by decide) ?_
  refine lv_aload_n hx hb dX12_isLand_3 rfl (lv_at hl 0 rfl) ?_
  refine va_get (D := G) (ci := 12) (v := .ref a_7) (C := RX12) (T := TX12) (N := 38) hx hb hts (mm_i inlX12) hown hK.1 hP 0 rfl rfl 17 (by decide) (mm_h hts mm_w149) (fun _ h9 => h9) rfl dX12_isLand_4 ?_
  refine lv_iconst (v := 3) hx hb dX12_isLand_7 (by decide) ?_
  refine va_iald hx hb hK.1 hP 1 1 rfl rfl (mm_in mm_k3 (by decide)) dX12_isLand_8 ?_
  refine lv_topi (fun v2 ev2 => ?_)
  obtain rfl : v2 = 0 := ev2
  refine lv_i2l (v := 0) hx hb dX12_isLand_9 (by decide) ?_
  refine lv_lconst (v := 1) hx hb dX12_isLand_10 (by decide) ?_
  refine lv_lsub hx hb dX12_isLand_11 ?_
  refine lv_topl (fun v3 ev3 => ?_)
  obtain rfl : v3 = (-1) := ev3.trans (by decide)
  refine mm_finir (va_runS (As := [.long v1, .long 0, .long (-1)]) (rest := []) ⟨hx, hb, hml, hown, hts⟩ (K109_X12_in l G cy H.size v1 rv1) (va_cwS 3 hts (mm_gS mm_w191 mm_w192 mm_w5 mm_w193) rfl rfl rfl hs_X12_in ⟨by rw [hRf]; exact Nat.le_of_ble_eq_true rfl, by rw [hRl]; exact Nat.le_of_ble_eq_true rfl⟩) (mm_preS hK hP hD [] rfl rfl) rfl rfl hl.1 rfl (lv_room (Nat.le_of_ble_eq_true rfl)) dX12_isLand_12 ⟨by rw [hRc]; exact Nat.le_of_ble_eq_true rfl, by rw [hRs]; exact Nat.le_of_ble_eq_true rfl⟩) hP hD hS hA [] rfl (fun _ => rfl) ?_
  clear hP hD hS
  clear H locs
  intro v4 _u H locs hw hP hD hS
  subst hw
  subst hAe
  rw [hQ]
  exact W.zret (v := 0) hx hb hr rfl (fun t ht hW => ⟨⟨0, (), rfl, rfl, by rw [ht]; exact hP, hK.warm hW, hD⟩, hS.F ht⟩) hS.2.2 dX12_isLand_15

set_option maxHeartbeats 4000000 in
set_option maxRecDepth 100000 in
theorem K125_X12_rule (l : Launch) (G : va_G) (cy : Nat → ClassId) (sz : Nat) (a_0 : Nat) (i_0 : Int32) (i_1 : Int32) (i_2 : Int32) (a_1 : Nat) (a_2 : Nat) (a_3 : Nat) (a_4 : Nat) (a_5 : Nat) (k_0 : Int32) (k_1 : Int32) (k_2 : Int32) (k_3 : Int32) (k_4 : Int32) (k_5 : Int64) (k_6 : Int32) (k_7 : Int32) (k_8 : Int32) (k_9 : Int32) (a_6 : Nat) (a_7 : Nat) (a_8 : Nat) (a_9 : Nat) (a_10 : Nat) (a_11 : Nat) (a_12 : Nat) (a_13 : Nat) (a_14 : Nat) (a_15 : Nat) (a_16 : Nat) (a_17 : Nat) (a_18 : Nat) (k_10 : Int32) (k_11 : Int32) (k_12 : Int32) (k_13 : Int32) (k_14 : Int32) (k_15 : Int32) (a_19 : Nat) (k_16 : Int32) (a_20 : Nat)   : mm_CI l yX12_rule (mm_ws yX12_rule cX12_rule 4 (some .int)) ({ frames := 2, cells := 0, slots := 0, locals := 46 } : Room) G cy sz [(a_0, .inr (12, [.int 0, .ref a_1, .ref a_2, .ref a_3, .ref a_4, .ref a_5, .int k_0, .int k_1, .int k_2, .int k_3, .int k_4, .long k_5, .int k_6, .int k_7, .int k_8, .int k_9, .ref a_6, .ref a_7, .ref a_8, .ref a_9, .ref a_10, .ref a_11, .ref a_12, .ref a_13, .ref a_14, .ref a_15, .ref a_16, .ref a_17, .ref a_18, .int k_10, .int k_11, .int k_12, .int k_13, .int k_14, .int k_15, .ref a_19, .int k_16, .ref a_20])), (a_7, .inl (cy 1, 30, .inl (fun _ => 0)))] [.ref a_0, .int i_0, .int i_1, .int i_2] (fun u : Unit => [(a_0, .inr (12, [.int 0, .ref a_1, .ref a_2, .ref a_3, .ref a_4, .ref a_5, .int k_0, .int k_1, .int k_2, .int k_3, .int k_4, .long k_5, .int k_6, .int k_7, .int k_8, .int k_9, .ref a_6, .ref a_7, .ref a_8, .ref a_9, .ref a_10, .ref a_11, .ref a_12, .ref a_13, .ref a_14, .ref a_15, .ref a_16, .ref a_17, .ref a_18, .int k_10, .int k_11, .int k_12, .int k_13, .int k_14, .int k_15, .ref a_19, .int k_16, .ref a_20])), (a_7, .inl (cy 1, 30, .inl (fun _ => 0)))]) (fun (r : Int32) (u : Unit) => (-2) = r) 0 0 := by
  refine mm_begin (lv := [(0, .ref a_0), (1, .int i_0), (2, .int i_1), (3, .int i_2)]) (by decide) (Nat.le_of_ble_eq_true rfl) rfl ?_
  intro p e s m below meth c A ls R args Q H locs hRe hQ hAe hx hb hr hlocks hml hown hnm hts hsz hA hS hP hK hD hl
  have hRf : R.frames = 2 := by rw [hRe]
  have hRl : R.locals = 46 := by rw [hRe]
  have hRc : R.cells = 0 := by rw [hRe]
  have hRs : R.slots = 0 := by rw [hRe]
  refine lv_aload_n hx hb dX12_rule_0 rfl (lv_at hl 0 rfl) ?_
  refine lv_iconst (v := 0) hx hb dX12_rule_1 (by decide) ?_
  refine va_put (D := G) (ci := 12) (v := .int 0) (ty := tyX12 0) (C := RX12) (T := TX12) (N := 38) hx hb hts (mm_i inlX12) tyX12 tyX12_ok nmX12 hown hK.1 hP hD hS 0 rfl rfl 0 (by decide) (mm_h hts mm_w177) (fun _ h9 => h9) rfl (tyX12_ok 0 (by decide)) rfl rfl (Nat.le_of_ble_eq_true rfl) dX12_rule_2 ?_
  clear hP hD hS
  clear H locs
  intro H locs (hP : va_P G vwCl [(a_0, .inr (12, [.int 0, .ref a_1, .ref a_2, .ref a_3, .ref a_4, .ref a_5, .int k_0, .int k_1, .int k_2, .int k_3, .int k_4, .long k_5, .int k_6, .int k_7, .int k_8, .int k_9, .ref a_6, .ref a_7, .ref a_8, .ref a_9, .ref a_10, .ref a_11, .ref a_12, .ref a_13, .ref a_14, .ref a_15, .ref a_16, .ref a_17, .ref a_18, .int k_10, .int k_11, .int k_12, .int k_13, .int k_14, .int k_15, .ref a_19, .int k_16, .ref a_20])), (a_7, .inl (cy 1, 30, .inl (fun _ => 0)))] H) (hD : va_D A [(a_0, .inr (12, [.int 0, .ref a_1, .ref a_2, .ref a_3, .ref a_4, .ref a_5, .int k_0, .int k_1, .int k_2, .int k_3, .int k_4, .long k_5, .int k_6, .int k_7, .int k_8, .int k_9, .ref a_6, .ref a_7, .ref a_8, .ref a_9, .ref a_10, .ref a_11, .ref a_12, .ref a_13, .ref a_14, .ref a_15, .ref a_16, .ref a_17, .ref a_18, .int k_10, .int k_11, .int k_12, .int k_13, .int k_14, .int k_15, .ref a_19, .int k_16, .ref a_20])), (a_7, .inl (cy 1, 30, .inl (fun _ => 0)))]) hS
  refine lv_aload_n hx hb dX12_rule_5 rfl (lv_at hl 0 rfl) ?_
  refine lv_iload_n hx hb dX12_rule_6 rfl (lv_at hl 1 rfl) ?_
  refine mm_finir (va_runV (As := [.int i_0]) (rest := []) ⟨hx, hb, hml, hown, hts⟩ (K126_X12_isLand l G cy H.size a_0 i_0 0 a_1 a_2 a_3 a_4 a_5 k_0 k_1 k_2 k_3 k_4 k_5 k_6 k_7 k_8 k_9 a_6 a_7 a_8 a_9 a_10 a_11 a_12 a_13 a_14 a_15 a_16 a_17 a_18 k_10 k_11 k_12 k_13 k_14 k_15 a_19 k_16 a_20 ) (cwV 1 hts (mm_gV mm_w641 mm_w642 mm_w643 mm_w5 mm_w644) rfl rfl rfl hd_X12_isLand ⟨by rw [hRf]; exact Nat.le_of_ble_eq_true rfl, by rw [hRl]; exact Nat.le_of_ble_eq_true rfl⟩) (mm_preV hK hP hD [0, 1] rfl rfl 0 rfl rfl rfl) rfl rfl hl.1 rfl (lv_room (Nat.le_of_ble_eq_true rfl)) dX12_rule_7 ⟨by rw [hRc]; exact Nat.le_of_ble_eq_true rfl, by rw [hRs]; exact Nat.le_of_ble_eq_true rfl⟩) hP hD hS hA [0, 1] rfl (fun _ => rfl) ?_
  clear hP hD hS
  clear H locs
  intro v1 _u H locs hw hP hD hS
  subst hw
  refine lv_if_eq (tgt := 58) hx hb dX12_rule_10 (by decide) (fun c2 => ?_) (fun c2 => ?_)
  · refine lv_bipush (v := (-2)) hx hb dX12_rule_58 (by decide) ?_
    subst hAe
    rw [hQ]
    exact W.iret (v := (-2)) hx hb hr (fun t ht hW => ⟨⟨(-2), (), rfl, rfl, by rw [ht]; exact hP, hK.warm hW, hD⟩, hS.F ht⟩) hS.2.2 dX12_rule_60
  · have q3 := mm_neL (lo := 1) (mm_ne c2) mm_k0 mm_k0 (by decide) (by decide)
    exact mm_no q3 (by decide)

set_option maxHeartbeats 4000000 in
set_option maxRecDepth 100000 in
theorem K127_X11_means (l : Launch) (G : va_G) (cy : Nat → ClassId) (sz : Nat) (a_0 : Nat) (i_0 : Int32) (i_1 : Int32) (i_2 : Int32) (a_1 : Nat) (a_2 : Nat) (a_3 : Nat) (a_4 : Nat) (a_5 : Nat) (a_6 : Nat) (a_7 : Nat) (a_8 : Nat) (a_9 : Nat) (a_10 : Nat) (a_11 : Nat) (a_24 : Nat) (a_25 : Nat) (k_0 : Int32) (k_1 : Int32) (k_2 : Int32) (k_3 : Int32) (k_4 : Int32) (k_5 : Int32) (k_6 : Int32) (a_26 : Nat) (a_27 : Nat) (a_28 : Nat) (a_29 : Nat) (a_30 : Nat) (a_31 : Nat) (a_32 : Nat) (a_33 : Nat) (a_34 : Nat) (a_35 : Nat)   : mm_CI l yX11_means (mm_ws yX11_means cX11_means 4 (some .int)) ({ frames := 1, cells := 0, slots := 0, locals := 21 } : Room) G cy sz [(a_0, .inr (11, [.ref a_1, .ref a_2, .ref a_3, .ref a_4, .ref a_5, .ref a_6, .ref a_7, .ref a_8, .ref a_9, .ref a_10, .ref a_11])), (a_3, .inr (10, [.ref a_24, .ref a_25])), (a_24, .inr (0, [.int k_0, .int k_1, .int k_2, .int k_3, .int k_4, .int 0, .int k_5, .int k_6, .ref a_26, .ref a_27, .ref a_28, .ref a_29, .ref a_30, .ref a_31, .ref a_32, .ref a_33, .ref a_34, .ref a_35]))] [.ref a_0, .int i_0, .int i_1, .int i_2] (fun u : Unit => [(a_0, .inr (11, [.ref a_1, .ref a_2, .ref a_3, .ref a_4, .ref a_5, .ref a_6, .ref a_7, .ref a_8, .ref a_9, .ref a_10, .ref a_11])), (a_3, .inr (10, [.ref a_24, .ref a_25])), (a_24, .inr (0, [.int k_0, .int k_1, .int k_2, .int k_3, .int k_4, .int 0, .int k_5, .int k_6, .ref a_26, .ref a_27, .ref a_28, .ref a_29, .ref a_30, .ref a_31, .ref a_32, .ref a_33, .ref a_34, .ref a_35]))]) (fun (r : Int32) (u : Unit) => (-2) = r) 0 0 := by
  refine mm_begin (lv := [(0, .ref a_0), (1, .int i_0), (2, .int i_1), (3, .int i_2)]) (by decide) (Nat.le_of_ble_eq_true rfl) rfl ?_
  intro p e s m below meth c A ls R args Q H locs hRe hQ hAe hx hb hr hlocks hml hown hnm hts hsz hA hS hP hK hD hl
  have hRf : R.frames = 1 := by rw [hRe]
  have hRl : R.locals = 21 := by rw [hRe]
  have hRc : R.cells = 0 := by rw [hRe]
  have hRs : R.slots = 0 := by rw [hRe]
  refine lv_aload_n hx hb dX11_means_0 rfl (lv_at hl 0 rfl) ?_
  refine lv_iload_n hx hb dX11_means_1 rfl (lv_at hl 1 rfl) ?_
  refine mm_finir (va_runV (As := [.int i_0]) (rest := []) ⟨hx, hb, hml, hown, hts⟩ (K123_X11_isLand l G cy H.size a_0 i_0 a_1 a_2 a_3 a_4 a_5 a_6 a_7 a_8 a_9 a_10 a_11 a_24 a_25 k_0 k_1 k_2 k_3 k_4 k_5 k_6 a_26 a_27 a_28 a_29 a_30 a_31 a_32 a_33 a_34 a_35 ) (cwV 1 hts (mm_gV mm_w626 mm_w627 mm_w628 mm_w2 mm_w629) rfl rfl rfl hd_X11_isLand ⟨by rw [hRf]; exact Nat.le_of_ble_eq_true rfl, by rw [hRl]; exact Nat.le_of_ble_eq_true rfl⟩) (mm_preV hK hP hD [0, 1, 2] rfl rfl 0 rfl rfl rfl) rfl rfl hl.1 rfl (lv_room (Nat.le_of_ble_eq_true rfl)) dX11_means_2 ⟨by rw [hRc]; exact Nat.le_of_ble_eq_true rfl, by rw [hRs]; exact Nat.le_of_ble_eq_true rfl⟩) hP hD hS hA [0, 1, 2] rfl (fun _ => rfl) ?_
  clear hP hD hS
  clear H locs
  intro v1 _u H locs hw hP hD hS
  subst hw
  refine lv_if_eq (tgt := 23) hx hb dX11_means_5 (by decide) (fun c2 => ?_) (fun c2 => ?_)
  · refine lv_bipush (v := (-2)) hx hb dX11_means_23 (by decide) ?_
    subst hAe
    rw [hQ]
    exact W.iret (v := (-2)) hx hb hr (fun t ht hW => ⟨⟨(-2), (), rfl, rfl, by rw [ht]; exact hP, hK.warm hW, hD⟩, hS.F ht⟩) hS.2.2 dX11_means_25
  · have q3 := mm_neL (lo := 1) (mm_ne c2) mm_k0 mm_k0 (by decide) (by decide)
    exact mm_no q3 (by decide)

set_option maxHeartbeats 4000000 in
set_option maxRecDepth 100000 in
theorem K129_X12_isLand (l : Launch) (G : va_G) (cy : Nat → ClassId) (sz : Nat) (a_0 : Nat) (i_0 : Int32) (i_1 : Int32) (a_1 : Nat) (a_2 : Nat) (a_3 : Nat) (a_4 : Nat) (a_5 : Nat) (i_2 : Int32) (i_3 : Int32) (i_4 : Int32) (i_5 : Int32) (i_6 : Int32) (j_0 : Int64) (i_7 : Int32) (i_8 : Int32) (i_9 : Int32) (i_10 : Int32) (a_6 : Nat) (a_7 : Nat) (a_8 : Nat) (a_9 : Nat) (a_10 : Nat) (a_11 : Nat) (a_12 : Nat) (a_13 : Nat) (a_14 : Nat) (a_15 : Nat) (a_16 : Nat) (a_17 : Nat) (a_18 : Nat) (i_11 : Int32) (i_12 : Int32) (i_13 : Int32) (i_14 : Int32) (i_15 : Int32) (i_16 : Int32) (a_19 : Nat) (i_17 : Int32) (a_20 : Nat)   : mm_CI l yX12_isLand (mm_ws yX12_isLand cX12_isLand 2 (some .boolean)) ({ frames := 1, cells := 0, slots := 0, locals := 25 } : Room) G cy sz [(a_0, .inr (12, [.int i_1, .ref a_1, .ref a_2, .ref a_3, .ref a_4, .ref a_5, .int i_2, .int i_3, .int i_4, .int i_5, .int i_6, .long j_0, .int i_7, .int i_8, .int i_9, .int i_10, .ref a_6, .ref a_7, .ref a_8, .ref a_9, .ref a_10, .ref a_11, .ref a_12, .ref a_13, .ref a_14, .ref a_15, .ref a_16, .ref a_17, .ref a_18, .int i_11, .int i_12, .int i_13, .int i_14, .int i_15, .int i_16, .ref a_19, .int i_17, .ref a_20])), (a_7, .inl (cy 1, 30, .inl (fun _ => 0)))] [.ref a_0, .int i_0] (fun u : Unit => [(a_0, .inr (12, [.int i_1, .ref a_1, .ref a_2, .ref a_3, .ref a_4, .ref a_5, .int i_2, .int i_3, .int i_4, .int i_5, .int i_6, .long j_0, .int i_7, .int i_8, .int i_9, .int i_10, .ref a_6, .ref a_7, .ref a_8, .ref a_9, .ref a_10, .ref a_11, .ref a_12, .ref a_13, .ref a_14, .ref a_15, .ref a_16, .ref a_17, .ref a_18, .int i_11, .int i_12, .int i_13, .int i_14, .int i_15, .int i_16, .ref a_19, .int i_17, .ref a_20])), (a_7, .inl (cy 1, 30, .inl (fun _ => 0)))]) (fun (r : Int32) (u : Unit) => 0 = r) 0 0 := by
  refine mm_begin (lv := [(0, .ref a_0), (1, .int i_0)]) (by decide) (Nat.le_of_ble_eq_true rfl) rfl ?_
  intro p e s m below meth c A ls R args Q H locs hRe hQ hAe hx hb hr hlocks hml hown hnm hts hsz hA hS hP hK hD hl
  have hRf : R.frames = 1 := by rw [hRe]
  have hRl : R.locals = 25 := by rw [hRe]
  have hRc : R.cells = 0 := by rw [hRe]
  have hRs : R.slots = 0 := by rw [hRe]
  refine lv_iload_n hx hb dX12_isLand_0 rfl (lv_at hl 1 rfl) ?_
  obtain ⟨v1, ev1⟩ : ∃ y : Int64, y = i_0.toInt64 := ⟨_, rfl⟩
  refine lv_i2l hx hb dX12_isLand_1 ev1.symm ?_
  have rv1 : mm_rl v1 (-2147483648) 2147483647 := mm_i2l ev1 (mm_top i_0)
  refine lv_lconst (v := 0) hx hb dX12_isLand_2 (by decide) ?_
  refine lv_aload_n hx hb dX12_isLand_3 rfl (lv_at hl 0 rfl) ?_
  refine va_get (D := G) (ci := 12) (v := .ref a_7) (C := RX12) (T := TX12) (N := 38) hx hb hts (mm_i inlX12) hown hK.1 hP 0 rfl rfl 17 (by decide) (mm_h hts mm_w149) (fun _ h9 => h9) rfl dX12_isLand_4 ?_
  refine lv_iconst (v := 3) hx hb dX12_isLand_7 (by decide) ?_
  refine va_iald hx hb hK.1 hP 1 1 rfl rfl (mm_in mm_k3 (by decide)) dX12_isLand_8 ?_
  refine lv_topi (fun v2 ev2 => ?_)
  obtain rfl : v2 = 0 := ev2
  refine lv_i2l (v := 0) hx hb dX12_isLand_9 (by decide) ?_
  refine lv_lconst (v := 1) hx hb dX12_isLand_10 (by decide) ?_
  refine lv_lsub hx hb dX12_isLand_11 ?_
  refine lv_topl (fun v3 ev3 => ?_)
  obtain rfl : v3 = (-1) := ev3.trans (by decide)
  refine mm_finir (va_runS (As := [.long v1, .long 0, .long (-1)]) (rest := []) ⟨hx, hb, hml, hown, hts⟩ (K109_X12_in l G cy H.size v1 rv1) (va_cwS 3 hts (mm_gS mm_w191 mm_w192 mm_w5 mm_w193) rfl rfl rfl hs_X12_in ⟨by rw [hRf]; exact Nat.le_of_ble_eq_true rfl, by rw [hRl]; exact Nat.le_of_ble_eq_true rfl⟩) (mm_preS hK hP hD [] rfl rfl) rfl rfl hl.1 rfl (lv_room (Nat.le_of_ble_eq_true rfl)) dX12_isLand_12 ⟨by rw [hRc]; exact Nat.le_of_ble_eq_true rfl, by rw [hRs]; exact Nat.le_of_ble_eq_true rfl⟩) hP hD hS hA [] rfl (fun _ => rfl) ?_
  clear hP hD hS
  clear H locs
  intro v4 _u H locs hw hP hD hS
  subst hw
  subst hAe
  rw [hQ]
  exact W.zret (v := 0) hx hb hr rfl (fun t ht hW => ⟨⟨0, (), rfl, rfl, by rw [ht]; exact hP, hK.warm hW, hD⟩, hS.F ht⟩) hS.2.2 dX12_isLand_15

set_option maxHeartbeats 4000000 in
set_option maxRecDepth 100000 in
theorem K128_X12_isThen (l : Launch) (G : va_G) (cy : Nat → ClassId) (sz : Nat) (a_0 : Nat) (i_0 : Int32) (i_1 : Int32) (k_0 : Int32) (a_1 : Nat) (a_2 : Nat) (a_3 : Nat) (a_4 : Nat) (a_5 : Nat) (k_1 : Int32) (k_2 : Int32) (k_3 : Int32) (k_4 : Int32) (k_5 : Int32) (k_6 : Int64) (k_7 : Int32) (k_8 : Int32) (k_9 : Int32) (k_10 : Int32) (a_6 : Nat) (a_7 : Nat) (a_8 : Nat) (a_9 : Nat) (a_10 : Nat) (a_11 : Nat) (a_12 : Nat) (a_13 : Nat) (a_14 : Nat) (a_15 : Nat) (a_16 : Nat) (a_17 : Nat) (a_18 : Nat) (k_11 : Int32) (k_12 : Int32) (k_13 : Int32) (k_14 : Int32) (k_15 : Int32) (k_16 : Int32) (a_19 : Nat) (k_17 : Int32) (a_20 : Nat)   : mm_CI l yX12_isThen (mm_ws yX12_isThen cX12_isThen 3 (some .boolean)) ({ frames := 2, cells := 0, slots := 0, locals := 46 } : Room) G cy sz [(a_0, .inr (12, [.int k_0, .ref a_1, .ref a_2, .ref a_3, .ref a_4, .ref a_5, .int k_1, .int k_2, .int k_3, .int k_4, .int k_5, .long k_6, .int k_7, .int k_8, .int k_9, .int k_10, .ref a_6, .ref a_7, .ref a_8, .ref a_9, .ref a_10, .ref a_11, .ref a_12, .ref a_13, .ref a_14, .ref a_15, .ref a_16, .ref a_17, .ref a_18, .int k_11, .int k_12, .int k_13, .int k_14, .int k_15, .int k_16, .ref a_19, .int k_17, .ref a_20])), (a_7, .inl (cy 1, 30, .inl (fun _ => 0)))] [.ref a_0, .int i_0, .int i_1] (fun u : Unit => [(a_0, .inr (12, [.int k_0, .ref a_1, .ref a_2, .ref a_3, .ref a_4, .ref a_5, .int k_1, .int k_2, .int k_3, .int k_4, .int k_5, .long k_6, .int k_7, .int k_8, .int k_9, .int k_10, .ref a_6, .ref a_7, .ref a_8, .ref a_9, .ref a_10, .ref a_11, .ref a_12, .ref a_13, .ref a_14, .ref a_15, .ref a_16, .ref a_17, .ref a_18, .int k_11, .int k_12, .int k_13, .int k_14, .int k_15, .int k_16, .ref a_19, .int k_17, .ref a_20])), (a_7, .inl (cy 1, 30, .inl (fun _ => 0)))]) (fun (r : Int32) (u : Unit) => 0 = r) 0 0 := by
  refine mm_begin (lv := [(0, .ref a_0), (1, .int i_0), (2, .int i_1)]) (by decide) (Nat.le_of_ble_eq_true rfl) rfl ?_
  intro p e s m below meth c A ls R args Q H locs hRe hQ hAe hx hb hr hlocks hml hown hnm hts hsz hA hS hP hK hD hl
  have hRf : R.frames = 2 := by rw [hRe]
  have hRl : R.locals = 46 := by rw [hRe]
  have hRc : R.cells = 0 := by rw [hRe]
  have hRs : R.slots = 0 := by rw [hRe]
  refine lv_aload_n hx hb dX12_isThen_0 rfl (lv_at hl 0 rfl) ?_
  refine lv_iload_n hx hb dX12_isThen_1 rfl (lv_at hl 1 rfl) ?_
  refine mm_finir (va_runV (As := [.int i_0]) (rest := []) ⟨hx, hb, hml, hown, hts⟩ (K129_X12_isLand l G cy H.size a_0 i_0 k_0 a_1 a_2 a_3 a_4 a_5 k_1 k_2 k_3 k_4 k_5 k_6 k_7 k_8 k_9 k_10 a_6 a_7 a_8 a_9 a_10 a_11 a_12 a_13 a_14 a_15 a_16 a_17 a_18 k_11 k_12 k_13 k_14 k_15 k_16 a_19 k_17 a_20 ) (cwV 1 hts (mm_gV mm_w641 mm_w642 mm_w643 mm_w5 mm_w644) rfl rfl rfl hd_X12_isLand ⟨by rw [hRf]; exact Nat.le_of_ble_eq_true rfl, by rw [hRl]; exact Nat.le_of_ble_eq_true rfl⟩) (mm_preV hK hP hD [0, 1] rfl rfl 0 rfl rfl rfl) rfl rfl hl.1 rfl (lv_room (Nat.le_of_ble_eq_true rfl)) dX12_isThen_2 ⟨by rw [hRc]; exact Nat.le_of_ble_eq_true rfl, by rw [hRs]; exact Nat.le_of_ble_eq_true rfl⟩) hP hD hS hA [0, 1] rfl (fun _ => rfl) ?_
  clear hP hD hS
  clear H locs
  intro v1 _u H locs hw hP hD hS
  subst hw
  refine lv_if_eq (tgt := 19) hx hb dX12_isThen_5 (by decide) (fun c2 => ?_) (fun c2 => ?_)
  · refine lv_iconst (v := 0) hx hb dX12_isThen_19 (by decide) ?_
    subst hAe
    rw [hQ]
    exact W.zret (v := 0) hx hb hr rfl (fun t ht hW => ⟨⟨0, (), rfl, rfl, by rw [ht]; exact hP, hK.warm hW, hD⟩, hS.F ht⟩) hS.2.2 dX12_isThen_20
  · have q3 := mm_neL (lo := 1) (mm_ne c2) mm_k0 mm_k0 (by decide) (by decide)
    exact mm_no q3 (by decide)

set_option maxHeartbeats 4000000 in
set_option maxRecDepth 100000 in
theorem K131_X12_isThen (l : Launch) (G : va_G) (cy : Nat → ClassId) (sz : Nat) (a_0 : Nat) (i_0 : Int32) (i_1 : Int32) (k_0 : Int32) (a_1 : Nat) (a_2 : Nat) (a_3 : Nat) (a_4 : Nat) (a_5 : Nat) (i_2 : Int32) (i_3 : Int32) (i_4 : Int32) (i_5 : Int32) (i_6 : Int32) (j_0 : Int64) (i_7 : Int32) (i_8 : Int32) (i_9 : Int32) (i_10 : Int32) (a_6 : Nat) (a_7 : Nat) (a_8 : Nat) (a_9 : Nat) (a_10 : Nat) (a_11 : Nat) (a_12 : Nat) (a_13 : Nat) (a_14 : Nat) (a_15 : Nat) (a_16 : Nat) (a_17 : Nat) (a_18 : Nat) (i_11 : Int32) (i_12 : Int32) (i_13 : Int32) (i_14 : Int32) (i_15 : Int32) (i_16 : Int32) (a_19 : Nat) (i_17 : Int32) (a_20 : Nat)   : mm_CI l yX12_isThen (mm_ws yX12_isThen cX12_isThen 3 (some .boolean)) ({ frames := 2, cells := 0, slots := 0, locals := 46 } : Room) G cy sz [(a_0, .inr (12, [.int k_0, .ref a_1, .ref a_2, .ref a_3, .ref a_4, .ref a_5, .int i_2, .int i_3, .int i_4, .int i_5, .int i_6, .long j_0, .int i_7, .int i_8, .int i_9, .int i_10, .ref a_6, .ref a_7, .ref a_8, .ref a_9, .ref a_10, .ref a_11, .ref a_12, .ref a_13, .ref a_14, .ref a_15, .ref a_16, .ref a_17, .ref a_18, .int i_11, .int i_12, .int i_13, .int i_14, .int i_15, .int i_16, .ref a_19, .int i_17, .ref a_20])), (a_7, .inl (cy 1, 30, .inl (fun _ => 0)))] [.ref a_0, .int i_0, .int i_1] (fun u : Unit => [(a_0, .inr (12, [.int k_0, .ref a_1, .ref a_2, .ref a_3, .ref a_4, .ref a_5, .int i_2, .int i_3, .int i_4, .int i_5, .int i_6, .long j_0, .int i_7, .int i_8, .int i_9, .int i_10, .ref a_6, .ref a_7, .ref a_8, .ref a_9, .ref a_10, .ref a_11, .ref a_12, .ref a_13, .ref a_14, .ref a_15, .ref a_16, .ref a_17, .ref a_18, .int i_11, .int i_12, .int i_13, .int i_14, .int i_15, .int i_16, .ref a_19, .int i_17, .ref a_20])), (a_7, .inl (cy 1, 30, .inl (fun _ => 0)))]) (fun (r : Int32) (u : Unit) => 0 = r) 0 0 := by
  refine mm_begin (lv := [(0, .ref a_0), (1, .int i_0), (2, .int i_1)]) (by decide) (Nat.le_of_ble_eq_true rfl) rfl ?_
  intro p e s m below meth c A ls R args Q H locs hRe hQ hAe hx hb hr hlocks hml hown hnm hts hsz hA hS hP hK hD hl
  have hRf : R.frames = 2 := by rw [hRe]
  have hRl : R.locals = 46 := by rw [hRe]
  have hRc : R.cells = 0 := by rw [hRe]
  have hRs : R.slots = 0 := by rw [hRe]
  refine lv_aload_n hx hb dX12_isThen_0 rfl (lv_at hl 0 rfl) ?_
  refine lv_iload_n hx hb dX12_isThen_1 rfl (lv_at hl 1 rfl) ?_
  refine mm_finir (va_runV (As := [.int i_0]) (rest := []) ⟨hx, hb, hml, hown, hts⟩ (K129_X12_isLand l G cy H.size a_0 i_0 k_0 a_1 a_2 a_3 a_4 a_5 i_2 i_3 i_4 i_5 i_6 j_0 i_7 i_8 i_9 i_10 a_6 a_7 a_8 a_9 a_10 a_11 a_12 a_13 a_14 a_15 a_16 a_17 a_18 i_11 i_12 i_13 i_14 i_15 i_16 a_19 i_17 a_20 ) (cwV 1 hts (mm_gV mm_w641 mm_w642 mm_w643 mm_w5 mm_w644) rfl rfl rfl hd_X12_isLand ⟨by rw [hRf]; exact Nat.le_of_ble_eq_true rfl, by rw [hRl]; exact Nat.le_of_ble_eq_true rfl⟩) (mm_preV hK hP hD [0, 1] rfl rfl 0 rfl rfl rfl) rfl rfl hl.1 rfl (lv_room (Nat.le_of_ble_eq_true rfl)) dX12_isThen_2 ⟨by rw [hRc]; exact Nat.le_of_ble_eq_true rfl, by rw [hRs]; exact Nat.le_of_ble_eq_true rfl⟩) hP hD hS hA [0, 1] rfl (fun _ => rfl) ?_
  clear hP hD hS
  clear H locs
  intro v1 _u H locs hw hP hD hS
  subst hw
  refine lv_if_eq (tgt := 19) hx hb dX12_isThen_5 (by decide) (fun c2 => ?_) (fun c2 => ?_)
  · refine lv_iconst (v := 0) hx hb dX12_isThen_19 (by decide) ?_
    subst hAe
    rw [hQ]
    exact W.zret (v := 0) hx hb hr rfl (fun t ht hW => ⟨⟨0, (), rfl, rfl, by rw [ht]; exact hP, hK.warm hW, hD⟩, hS.F ht⟩) hS.2.2 dX12_isThen_20
  · have q3 := mm_neL (lo := 1) (mm_ne c2) mm_k0 mm_k0 (by decide) (by decide)
    exact mm_no q3 (by decide)

set_option maxHeartbeats 4000000 in
set_option maxRecDepth 100000 in
theorem K130_X12_means (l : Launch) (G : va_G) (cy : Nat → ClassId) (sz : Nat) (a_0 : Nat) (i_0 : Int32) (i_1 : Int32) (i_2 : Int32) (a_1 : Nat) (a_2 : Nat) (a_3 : Nat) (a_4 : Nat) (a_5 : Nat) (k_0 : Int32) (k_1 : Int32) (k_2 : Int32) (k_3 : Int32) (k_4 : Int32) (k_5 : Int64) (k_6 : Int32) (k_7 : Int32) (k_8 : Int32) (k_9 : Int32) (a_6 : Nat) (a_7 : Nat) (a_8 : Nat) (a_9 : Nat) (a_10 : Nat) (a_11 : Nat) (a_12 : Nat) (a_13 : Nat) (a_14 : Nat) (a_15 : Nat) (a_16 : Nat) (a_17 : Nat) (a_18 : Nat) (k_10 : Int32) (k_11 : Int32) (k_12 : Int32) (k_13 : Int32) (k_14 : Int32) (k_15 : Int32) (a_19 : Nat) (k_16 : Int32) (a_20 : Nat)   : mm_CI l yX12_means (mm_ws yX12_means cX12_means 4 (some .int)) ({ frames := 3, cells := 0, slots := 0, locals := 68 } : Room) G cy sz [(a_0, .inr (12, [.int 0, .ref a_1, .ref a_2, .ref a_3, .ref a_4, .ref a_5, .int k_0, .int k_1, .int k_2, .int k_3, .int k_4, .long k_5, .int k_6, .int k_7, .int k_8, .int k_9, .ref a_6, .ref a_7, .ref a_8, .ref a_9, .ref a_10, .ref a_11, .ref a_12, .ref a_13, .ref a_14, .ref a_15, .ref a_16, .ref a_17, .ref a_18, .int k_10, .int k_11, .int k_12, .int k_13, .int k_14, .int k_15, .ref a_19, .int k_16, .ref a_20])), (a_7, .inl (cy 1, 30, .inl (fun _ => 0)))] [.ref a_0, .int i_0, .int i_1, .int i_2] (fun u : Unit => [(a_0, .inr (12, [.int 0, .ref a_1, .ref a_2, .ref a_3, .ref a_4, .ref a_5, .int k_0, .int k_1, .int k_2, .int k_3, .int k_4, .long k_5, .int k_6, .int k_7, .int k_8, .int k_9, .ref a_6, .ref a_7, .ref a_8, .ref a_9, .ref a_10, .ref a_11, .ref a_12, .ref a_13, .ref a_14, .ref a_15, .ref a_16, .ref a_17, .ref a_18, .int k_10, .int k_11, .int k_12, .int k_13, .int k_14, .int k_15, .ref a_19, .int k_16, .ref a_20])), (a_7, .inl (cy 1, 30, .inl (fun _ => 0)))]) (fun (r : Int32) (u : Unit) => (-2) = r) 0 0 := by
  refine mm_begin (lv := [(0, .ref a_0), (1, .int i_0), (2, .int i_1), (3, .int i_2)]) (by decide) (Nat.le_of_ble_eq_true rfl) rfl ?_
  intro p e s m below meth c A ls R args Q H locs hRe hQ hAe hx hb hr hlocks hml hown hnm hts hsz hA hS hP hK hD hl
  have hRf : R.frames = 3 := by rw [hRe]
  have hRl : R.locals = 68 := by rw [hRe]
  have hRc : R.cells = 0 := by rw [hRe]
  have hRs : R.slots = 0 := by rw [hRe]
  refine lv_aload_n hx hb dX12_means_0 rfl (lv_at hl 0 rfl) ?_
  refine lv_iconst (v := 0) hx hb dX12_means_1 (by decide) ?_
  refine va_put (D := G) (ci := 12) (v := .int 0) (ty := tyX12 0) (C := RX12) (T := TX12) (N := 38) hx hb hts (mm_i inlX12) tyX12 tyX12_ok nmX12 hown hK.1 hP hD hS 0 rfl rfl 0 (by decide) (mm_h hts mm_w177) (fun _ h9 => h9) rfl (tyX12_ok 0 (by decide)) rfl rfl (Nat.le_of_ble_eq_true rfl) dX12_means_2 ?_
  clear hP hD hS
  clear H locs
  intro H locs (hP : va_P G vwCl [(a_0, .inr (12, [.int 0, .ref a_1, .ref a_2, .ref a_3, .ref a_4, .ref a_5, .int k_0, .int k_1, .int k_2, .int k_3, .int k_4, .long k_5, .int k_6, .int k_7, .int k_8, .int k_9, .ref a_6, .ref a_7, .ref a_8, .ref a_9, .ref a_10, .ref a_11, .ref a_12, .ref a_13, .ref a_14, .ref a_15, .ref a_16, .ref a_17, .ref a_18, .int k_10, .int k_11, .int k_12, .int k_13, .int k_14, .int k_15, .ref a_19, .int k_16, .ref a_20])), (a_7, .inl (cy 1, 30, .inl (fun _ => 0)))] H) (hD : va_D A [(a_0, .inr (12, [.int 0, .ref a_1, .ref a_2, .ref a_3, .ref a_4, .ref a_5, .int k_0, .int k_1, .int k_2, .int k_3, .int k_4, .long k_5, .int k_6, .int k_7, .int k_8, .int k_9, .ref a_6, .ref a_7, .ref a_8, .ref a_9, .ref a_10, .ref a_11, .ref a_12, .ref a_13, .ref a_14, .ref a_15, .ref a_16, .ref a_17, .ref a_18, .int k_10, .int k_11, .int k_12, .int k_13, .int k_14, .int k_15, .ref a_19, .int k_16, .ref a_20])), (a_7, .inl (cy 1, 30, .inl (fun _ => 0)))]) hS
  refine lv_aload_n hx hb dX12_means_5 rfl (lv_at hl 0 rfl) ?_
  refine lv_iload_n hx hb dX12_means_6 rfl (lv_at hl 1 rfl) ?_
  refine lv_iload_n hx hb dX12_means_7 rfl (lv_at hl 2 rfl) ?_
  refine mm_finir (va_runV (As := [.int i_0, .int i_1]) (rest := []) ⟨hx, hb, hml, hown, hts⟩ (K131_X12_isThen l G cy H.size a_0 i_0 i_1 0 a_1 a_2 a_3 a_4 a_5 k_0 k_1 k_2 k_3 k_4 k_5 k_6 k_7 k_8 k_9 a_6 a_7 a_8 a_9 a_10 a_11 a_12 a_13 a_14 a_15 a_16 a_17 a_18 k_10 k_11 k_12 k_13 k_14 k_15 a_19 k_16 a_20 ) (cwV 2 hts (mm_gV mm_w678 mm_w679 mm_w680 mm_w5 mm_w681) rfl rfl rfl hd_X12_isThen ⟨by rw [hRf]; exact Nat.le_of_ble_eq_true rfl, by rw [hRl]; exact Nat.le_of_ble_eq_true rfl⟩) (mm_preV hK hP hD [0, 1] rfl rfl 0 rfl rfl rfl) rfl rfl hl.1 rfl (lv_room (Nat.le_of_ble_eq_true rfl)) dX12_means_8 ⟨by rw [hRc]; exact Nat.le_of_ble_eq_true rfl, by rw [hRs]; exact Nat.le_of_ble_eq_true rfl⟩) hP hD hS hA [0, 1] rfl (fun _ => rfl) ?_
  clear hP hD hS
  clear H locs
  intro v1 _u H locs hw hP hD hS
  subst hw
  refine lv_if_eq (tgt := 22) hx hb dX12_means_11 (by decide) (fun c2 => ?_) (fun c2 => ?_)
  · refine lv_bipush (v := (-2)) hx hb dX12_means_22 (by decide) ?_
    subst hAe
    rw [hQ]
    exact W.iret (v := (-2)) hx hb hr (fun t ht hW => ⟨⟨(-2), (), rfl, rfl, by rw [ht]; exact hP, hK.warm hW, hD⟩, hS.F ht⟩) hS.2.2 dX12_means_24
  · have q3 := mm_neL (lo := 1) (mm_ne c2) mm_k0 mm_k0 (by decide) (by decide)
    exact mm_no q3 (by decide)

set_option maxHeartbeats 4000000 in
set_option maxRecDepth 100000 in
theorem K132_X11_says (l : Launch) (G : va_G) (cy : Nat → ClassId) (sz : Nat) (a_0 : Nat) (i_0 : Int32) (i_1 : Int32) (i_2 : Int32) (a_1 : Nat) (a_2 : Nat) (a_3 : Nat) (a_4 : Nat) (a_5 : Nat) (a_6 : Nat) (a_7 : Nat) (a_8 : Nat) (a_9 : Nat) (a_10 : Nat) (a_11 : Nat) (a_24 : Nat) (a_25 : Nat) (k_0 : Int32) (k_1 : Int32) (k_2 : Int32) (k_3 : Int32) (k_4 : Int32) (k_5 : Int32) (k_6 : Int32) (a_26 : Nat) (a_27 : Nat) (a_28 : Nat) (a_29 : Nat) (a_30 : Nat) (a_31 : Nat) (a_32 : Nat) (a_33 : Nat) (a_34 : Nat) (a_35 : Nat)   : mm_CI l yX11_says (mm_ws yX11_says cX11_says 4 (some .int)) ({ frames := 1, cells := 0, slots := 0, locals := 21 } : Room) G cy sz [(a_0, .inr (11, [.ref a_1, .ref a_2, .ref a_3, .ref a_4, .ref a_5, .ref a_6, .ref a_7, .ref a_8, .ref a_9, .ref a_10, .ref a_11])), (a_3, .inr (10, [.ref a_24, .ref a_25])), (a_24, .inr (0, [.int k_0, .int k_1, .int k_2, .int k_3, .int k_4, .int 0, .int k_5, .int k_6, .ref a_26, .ref a_27, .ref a_28, .ref a_29, .ref a_30, .ref a_31, .ref a_32, .ref a_33, .ref a_34, .ref a_35]))] [.ref a_0, .int i_0, .int i_1, .int i_2] (fun u : Unit => [(a_0, .inr (11, [.ref a_1, .ref a_2, .ref a_3, .ref a_4, .ref a_5, .ref a_6, .ref a_7, .ref a_8, .ref a_9, .ref a_10, .ref a_11])), (a_3, .inr (10, [.ref a_24, .ref a_25])), (a_24, .inr (0, [.int k_0, .int k_1, .int k_2, .int k_3, .int k_4, .int 0, .int k_5, .int k_6, .ref a_26, .ref a_27, .ref a_28, .ref a_29, .ref a_30, .ref a_31, .ref a_32, .ref a_33, .ref a_34, .ref a_35]))]) (fun (r : Int32) (u : Unit) => (-2) = r) 0 0 := by
  refine mm_begin (lv := [(0, .ref a_0), (1, .int i_0), (2, .int i_1), (3, .int i_2)]) (by decide) (Nat.le_of_ble_eq_true rfl) rfl ?_
  intro p e s m below meth c A ls R args Q H locs hRe hQ hAe hx hb hr hlocks hml hown hnm hts hsz hA hS hP hK hD hl
  have hRf : R.frames = 1 := by rw [hRe]
  have hRl : R.locals = 21 := by rw [hRe]
  have hRc : R.cells = 0 := by rw [hRe]
  have hRs : R.slots = 0 := by rw [hRe]
  refine lv_aload_n hx hb dX11_says_0 rfl (lv_at hl 0 rfl) ?_
  refine lv_iload_n hx hb dX11_says_1 rfl (lv_at hl 1 rfl) ?_
  refine mm_finir (va_runV (As := [.int i_0]) (rest := []) ⟨hx, hb, hml, hown, hts⟩ (K123_X11_isLand l G cy H.size a_0 i_0 a_1 a_2 a_3 a_4 a_5 a_6 a_7 a_8 a_9 a_10 a_11 a_24 a_25 k_0 k_1 k_2 k_3 k_4 k_5 k_6 a_26 a_27 a_28 a_29 a_30 a_31 a_32 a_33 a_34 a_35 ) (cwV 1 hts (mm_gV mm_w626 mm_w627 mm_w628 mm_w2 mm_w629) rfl rfl rfl hd_X11_isLand ⟨by rw [hRf]; exact Nat.le_of_ble_eq_true rfl, by rw [hRl]; exact Nat.le_of_ble_eq_true rfl⟩) (mm_preV hK hP hD [0, 1, 2] rfl rfl 0 rfl rfl rfl) rfl rfl hl.1 rfl (lv_room (Nat.le_of_ble_eq_true rfl)) dX11_says_2 ⟨by rw [hRc]; exact Nat.le_of_ble_eq_true rfl, by rw [hRs]; exact Nat.le_of_ble_eq_true rfl⟩) hP hD hS hA [0, 1, 2] rfl (fun _ => rfl) ?_
  clear hP hD hS
  clear H locs
  intro v1 _u H locs hw hP hD hS
  subst hw
  refine lv_if_eq (tgt := 23) hx hb dX11_says_5 (by decide) (fun c2 => ?_) (fun c2 => ?_)
  · refine lv_bipush (v := (-2)) hx hb dX11_says_23 (by decide) ?_
    subst hAe
    rw [hQ]
    exact W.iret (v := (-2)) hx hb hr (fun t ht hW => ⟨⟨(-2), (), rfl, rfl, by rw [ht]; exact hP, hK.warm hW, hD⟩, hS.F ht⟩) hS.2.2 dX11_says_25
  · have q3 := mm_neL (lo := 1) (mm_ne c2) mm_k0 mm_k0 (by decide) (by decide)
    exact mm_no q3 (by decide)

set_option maxHeartbeats 4000000 in
set_option maxRecDepth 100000 in
theorem K133_X12_says (l : Launch) (G : va_G) (cy : Nat → ClassId) (sz : Nat) (a_0 : Nat) (i_0 : Int32) (i_1 : Int32) (i_2 : Int32) (a_1 : Nat) (a_2 : Nat) (a_3 : Nat) (a_4 : Nat) (a_5 : Nat) (k_0 : Int32) (k_1 : Int32) (k_2 : Int32) (k_3 : Int32) (k_4 : Int32) (k_5 : Int64) (k_6 : Int32) (k_7 : Int32) (k_8 : Int32) (k_9 : Int32) (a_6 : Nat) (a_7 : Nat) (a_8 : Nat) (a_9 : Nat) (a_10 : Nat) (a_11 : Nat) (a_12 : Nat) (a_13 : Nat) (a_14 : Nat) (a_15 : Nat) (a_16 : Nat) (a_17 : Nat) (a_18 : Nat) (k_10 : Int32) (k_11 : Int32) (k_12 : Int32) (k_13 : Int32) (k_14 : Int32) (k_15 : Int32) (a_19 : Nat) (k_16 : Int32) (a_20 : Nat)   : mm_CI l yX12_says (mm_ws yX12_says cX12_says 4 (some .int)) ({ frames := 3, cells := 0, slots := 0, locals := 68 } : Room) G cy sz [(a_0, .inr (12, [.int 0, .ref a_1, .ref a_2, .ref a_3, .ref a_4, .ref a_5, .int k_0, .int k_1, .int k_2, .int k_3, .int k_4, .long k_5, .int k_6, .int k_7, .int k_8, .int k_9, .ref a_6, .ref a_7, .ref a_8, .ref a_9, .ref a_10, .ref a_11, .ref a_12, .ref a_13, .ref a_14, .ref a_15, .ref a_16, .ref a_17, .ref a_18, .int k_10, .int k_11, .int k_12, .int k_13, .int k_14, .int k_15, .ref a_19, .int k_16, .ref a_20])), (a_7, .inl (cy 1, 30, .inl (fun _ => 0)))] [.ref a_0, .int i_0, .int i_1, .int i_2] (fun u : Unit => [(a_0, .inr (12, [.int 0, .ref a_1, .ref a_2, .ref a_3, .ref a_4, .ref a_5, .int k_0, .int k_1, .int k_2, .int k_3, .int k_4, .long k_5, .int k_6, .int k_7, .int k_8, .int k_9, .ref a_6, .ref a_7, .ref a_8, .ref a_9, .ref a_10, .ref a_11, .ref a_12, .ref a_13, .ref a_14, .ref a_15, .ref a_16, .ref a_17, .ref a_18, .int k_10, .int k_11, .int k_12, .int k_13, .int k_14, .int k_15, .ref a_19, .int k_16, .ref a_20])), (a_7, .inl (cy 1, 30, .inl (fun _ => 0)))]) (fun (r : Int32) (u : Unit) => (-2) = r) 0 0 := by
  refine mm_begin (lv := [(0, .ref a_0), (1, .int i_0), (2, .int i_1), (3, .int i_2)]) (by decide) (Nat.le_of_ble_eq_true rfl) rfl ?_
  intro p e s m below meth c A ls R args Q H locs hRe hQ hAe hx hb hr hlocks hml hown hnm hts hsz hA hS hP hK hD hl
  have hRf : R.frames = 3 := by rw [hRe]
  have hRl : R.locals = 68 := by rw [hRe]
  have hRc : R.cells = 0 := by rw [hRe]
  have hRs : R.slots = 0 := by rw [hRe]
  refine lv_aload_n hx hb dX12_says_0 rfl (lv_at hl 0 rfl) ?_
  refine lv_iconst (v := 0) hx hb dX12_says_1 (by decide) ?_
  refine va_put (D := G) (ci := 12) (v := .int 0) (ty := tyX12 0) (C := RX12) (T := TX12) (N := 38) hx hb hts (mm_i inlX12) tyX12 tyX12_ok nmX12 hown hK.1 hP hD hS 0 rfl rfl 0 (by decide) (mm_h hts mm_w177) (fun _ h9 => h9) rfl (tyX12_ok 0 (by decide)) rfl rfl (Nat.le_of_ble_eq_true rfl) dX12_says_2 ?_
  clear hP hD hS
  clear H locs
  intro H locs (hP : va_P G vwCl [(a_0, .inr (12, [.int 0, .ref a_1, .ref a_2, .ref a_3, .ref a_4, .ref a_5, .int k_0, .int k_1, .int k_2, .int k_3, .int k_4, .long k_5, .int k_6, .int k_7, .int k_8, .int k_9, .ref a_6, .ref a_7, .ref a_8, .ref a_9, .ref a_10, .ref a_11, .ref a_12, .ref a_13, .ref a_14, .ref a_15, .ref a_16, .ref a_17, .ref a_18, .int k_10, .int k_11, .int k_12, .int k_13, .int k_14, .int k_15, .ref a_19, .int k_16, .ref a_20])), (a_7, .inl (cy 1, 30, .inl (fun _ => 0)))] H) (hD : va_D A [(a_0, .inr (12, [.int 0, .ref a_1, .ref a_2, .ref a_3, .ref a_4, .ref a_5, .int k_0, .int k_1, .int k_2, .int k_3, .int k_4, .long k_5, .int k_6, .int k_7, .int k_8, .int k_9, .ref a_6, .ref a_7, .ref a_8, .ref a_9, .ref a_10, .ref a_11, .ref a_12, .ref a_13, .ref a_14, .ref a_15, .ref a_16, .ref a_17, .ref a_18, .int k_10, .int k_11, .int k_12, .int k_13, .int k_14, .int k_15, .ref a_19, .int k_16, .ref a_20])), (a_7, .inl (cy 1, 30, .inl (fun _ => 0)))]) hS
  refine lv_aload_n hx hb dX12_says_5 rfl (lv_at hl 0 rfl) ?_
  refine lv_iload_n hx hb dX12_says_6 rfl (lv_at hl 1 rfl) ?_
  refine lv_iload_n hx hb dX12_says_7 rfl (lv_at hl 2 rfl) ?_
  refine mm_finir (va_runV (As := [.int i_0, .int i_1]) (rest := []) ⟨hx, hb, hml, hown, hts⟩ (K131_X12_isThen l G cy H.size a_0 i_0 i_1 0 a_1 a_2 a_3 a_4 a_5 k_0 k_1 k_2 k_3 k_4 k_5 k_6 k_7 k_8 k_9 a_6 a_7 a_8 a_9 a_10 a_11 a_12 a_13 a_14 a_15 a_16 a_17 a_18 k_10 k_11 k_12 k_13 k_14 k_15 a_19 k_16 a_20 ) (cwV 2 hts (mm_gV mm_w678 mm_w679 mm_w680 mm_w5 mm_w681) rfl rfl rfl hd_X12_isThen ⟨by rw [hRf]; exact Nat.le_of_ble_eq_true rfl, by rw [hRl]; exact Nat.le_of_ble_eq_true rfl⟩) (mm_preV hK hP hD [0, 1] rfl rfl 0 rfl rfl rfl) rfl rfl hl.1 rfl (lv_room (Nat.le_of_ble_eq_true rfl)) dX12_says_8 ⟨by rw [hRc]; exact Nat.le_of_ble_eq_true rfl, by rw [hRs]; exact Nat.le_of_ble_eq_true rfl⟩) hP hD hS hA [0, 1] rfl (fun _ => rfl) ?_
  clear hP hD hS
  clear H locs
  intro v1 _u H locs hw hP hD hS
  subst hw
  refine lv_if_eq (tgt := 22) hx hb dX12_says_11 (by decide) (fun c2 => ?_) (fun c2 => ?_)
  · refine lv_bipush (v := (-2)) hx hb dX12_says_22 (by decide) ?_
    subst hAe
    rw [hQ]
    exact W.iret (v := (-2)) hx hb hr (fun t ht hW => ⟨⟨(-2), (), rfl, rfl, by rw [ht]; exact hP, hK.warm hW, hD⟩, hS.F ht⟩) hS.2.2 dX12_says_24
  · have q3 := mm_neL (lo := 1) (mm_ne c2) mm_k0 mm_k0 (by decide) (by decide)
    exact mm_no q3 (by decide)

set_option maxHeartbeats 4000000 in
set_option maxRecDepth 100000 in
theorem K134_X11_round (l : Launch) (G : va_G) (cy : Nat → ClassId) (sz : Nat) (a_0 : Nat) (i_0 : Int32) (a_1 : Nat) (a_2 : Nat) (a_3 : Nat) (a_4 : Nat) (a_5 : Nat) (a_6 : Nat) (a_7 : Nat) (a_8 : Nat) (a_9 : Nat) (a_10 : Nat) (a_11 : Nat) (a_24 : Nat) (a_25 : Nat) (k_0 : Int32) (k_1 : Int32) (k_2 : Int32) (k_3 : Int32) (k_4 : Int32) (k_5 : Int32) (k_6 : Int32) (a_26 : Nat) (a_27 : Nat) (a_28 : Nat) (a_29 : Nat) (a_30 : Nat) (a_31 : Nat) (a_32 : Nat) (a_33 : Nat) (a_34 : Nat) (a_35 : Nat)   : mm_CI l yX11_round (mm_ws yX11_round cX11_round 2 (some .int)) ({ frames := 1, cells := 0, slots := 0, locals := 21 } : Room) G cy sz [(a_0, .inr (11, [.ref a_1, .ref a_2, .ref a_3, .ref a_4, .ref a_5, .ref a_6, .ref a_7, .ref a_8, .ref a_9, .ref a_10, .ref a_11])), (a_3, .inr (10, [.ref a_24, .ref a_25])), (a_24, .inr (0, [.int k_0, .int k_1, .int k_2, .int k_3, .int k_4, .int 0, .int k_5, .int k_6, .ref a_26, .ref a_27, .ref a_28, .ref a_29, .ref a_30, .ref a_31, .ref a_32, .ref a_33, .ref a_34, .ref a_35]))] [.ref a_0, .int i_0] (fun u : Unit => [(a_0, .inr (11, [.ref a_1, .ref a_2, .ref a_3, .ref a_4, .ref a_5, .ref a_6, .ref a_7, .ref a_8, .ref a_9, .ref a_10, .ref a_11])), (a_3, .inr (10, [.ref a_24, .ref a_25])), (a_24, .inr (0, [.int k_0, .int k_1, .int k_2, .int k_3, .int k_4, .int 0, .int k_5, .int k_6, .ref a_26, .ref a_27, .ref a_28, .ref a_29, .ref a_30, .ref a_31, .ref a_32, .ref a_33, .ref a_34, .ref a_35]))]) (fun (r : Int32) (u : Unit) => (-2) = r) 0 0 := by
  refine mm_begin (lv := [(0, .ref a_0), (1, .int i_0)]) (by decide) (Nat.le_of_ble_eq_true rfl) rfl ?_
  intro p e s m below meth c A ls R args Q H locs hRe hQ hAe hx hb hr hlocks hml hown hnm hts hsz hA hS hP hK hD hl
  have hRf : R.frames = 1 := by rw [hRe]
  have hRl : R.locals = 21 := by rw [hRe]
  have hRc : R.cells = 0 := by rw [hRe]
  have hRs : R.slots = 0 := by rw [hRe]
  refine lv_aload_n hx hb dX11_round_0 rfl (lv_at hl 0 rfl) ?_
  refine lv_iload_n hx hb dX11_round_1 rfl (lv_at hl 1 rfl) ?_
  refine mm_finir (va_runV (As := [.int i_0]) (rest := []) ⟨hx, hb, hml, hown, hts⟩ (K123_X11_isLand l G cy H.size a_0 i_0 a_1 a_2 a_3 a_4 a_5 a_6 a_7 a_8 a_9 a_10 a_11 a_24 a_25 k_0 k_1 k_2 k_3 k_4 k_5 k_6 a_26 a_27 a_28 a_29 a_30 a_31 a_32 a_33 a_34 a_35 ) (cwV 1 hts (mm_gV mm_w626 mm_w627 mm_w628 mm_w2 mm_w629) rfl rfl rfl hd_X11_isLand ⟨by rw [hRf]; exact Nat.le_of_ble_eq_true rfl, by rw [hRl]; exact Nat.le_of_ble_eq_true rfl⟩) (mm_preV hK hP hD [0, 1, 2] rfl rfl 0 rfl rfl rfl) rfl rfl hl.1 rfl (lv_room (Nat.le_of_ble_eq_true rfl)) dX11_round_2 ⟨by rw [hRc]; exact Nat.le_of_ble_eq_true rfl, by rw [hRs]; exact Nat.le_of_ble_eq_true rfl⟩) hP hD hS hA [0, 1, 2] rfl (fun _ => rfl) ?_
  clear hP hD hS
  clear H locs
  intro v1 _u H locs hw hP hD hS
  subst hw
  refine lv_if_eq (tgt := 19) hx hb dX11_round_5 (by decide) (fun c2 => ?_) (fun c2 => ?_)
  · refine lv_bipush (v := (-2)) hx hb dX11_round_19 (by decide) ?_
    subst hAe
    rw [hQ]
    exact W.iret (v := (-2)) hx hb hr (fun t ht hW => ⟨⟨(-2), (), rfl, rfl, by rw [ht]; exact hP, hK.warm hW, hD⟩, hS.F ht⟩) hS.2.2 dX11_round_21
  · have q3 := mm_neL (lo := 1) (mm_ne c2) mm_k0 mm_k0 (by decide) (by decide)
    exact mm_no q3 (by decide)

set_option maxHeartbeats 4000000 in
set_option maxRecDepth 100000 in
theorem K135_X12_round (l : Launch) (G : va_G) (cy : Nat → ClassId) (sz : Nat) (a_0 : Nat) (i_0 : Int32) (a_1 : Nat) (a_2 : Nat) (a_3 : Nat) (a_4 : Nat) (a_5 : Nat) (k_0 : Int32) (k_1 : Int32) (k_2 : Int32) (k_3 : Int32) (k_4 : Int32) (k_5 : Int64) (k_6 : Int32) (k_7 : Int32) (k_8 : Int32) (k_9 : Int32) (a_6 : Nat) (a_7 : Nat) (a_8 : Nat) (a_9 : Nat) (a_10 : Nat) (a_11 : Nat) (a_12 : Nat) (a_13 : Nat) (a_14 : Nat) (a_15 : Nat) (a_16 : Nat) (a_17 : Nat) (a_18 : Nat) (k_10 : Int32) (k_11 : Int32) (k_12 : Int32) (k_13 : Int32) (k_14 : Int32) (k_15 : Int32) (a_19 : Nat) (k_16 : Int32) (a_20 : Nat)   : mm_CI l yX12_round (mm_ws yX12_round cX12_round 2 (some .int)) ({ frames := 2, cells := 0, slots := 0, locals := 46 } : Room) G cy sz [(a_0, .inr (12, [.int 0, .ref a_1, .ref a_2, .ref a_3, .ref a_4, .ref a_5, .int k_0, .int k_1, .int k_2, .int k_3, .int k_4, .long k_5, .int k_6, .int k_7, .int k_8, .int k_9, .ref a_6, .ref a_7, .ref a_8, .ref a_9, .ref a_10, .ref a_11, .ref a_12, .ref a_13, .ref a_14, .ref a_15, .ref a_16, .ref a_17, .ref a_18, .int k_10, .int k_11, .int k_12, .int k_13, .int k_14, .int k_15, .ref a_19, .int k_16, .ref a_20])), (a_7, .inl (cy 1, 30, .inl (fun _ => 0)))] [.ref a_0, .int i_0] (fun u : Unit => [(a_0, .inr (12, [.int 0, .ref a_1, .ref a_2, .ref a_3, .ref a_4, .ref a_5, .int k_0, .int k_1, .int k_2, .int k_3, .int k_4, .long k_5, .int k_6, .int k_7, .int k_8, .int k_9, .ref a_6, .ref a_7, .ref a_8, .ref a_9, .ref a_10, .ref a_11, .ref a_12, .ref a_13, .ref a_14, .ref a_15, .ref a_16, .ref a_17, .ref a_18, .int k_10, .int k_11, .int k_12, .int k_13, .int k_14, .int k_15, .ref a_19, .int k_16, .ref a_20])), (a_7, .inl (cy 1, 30, .inl (fun _ => 0)))]) (fun (r : Int32) (u : Unit) => (-2) = r) 0 0 := by
  refine mm_begin (lv := [(0, .ref a_0), (1, .int i_0)]) (by decide) (Nat.le_of_ble_eq_true rfl) rfl ?_
  intro p e s m below meth c A ls R args Q H locs hRe hQ hAe hx hb hr hlocks hml hown hnm hts hsz hA hS hP hK hD hl
  have hRf : R.frames = 2 := by rw [hRe]
  have hRl : R.locals = 46 := by rw [hRe]
  have hRc : R.cells = 0 := by rw [hRe]
  have hRs : R.slots = 0 := by rw [hRe]
  refine lv_aload_n hx hb dX12_round_0 rfl (lv_at hl 0 rfl) ?_
  refine lv_iconst (v := 0) hx hb dX12_round_1 (by decide) ?_
  refine va_put (D := G) (ci := 12) (v := .int 0) (ty := tyX12 0) (C := RX12) (T := TX12) (N := 38) hx hb hts (mm_i inlX12) tyX12 tyX12_ok nmX12 hown hK.1 hP hD hS 0 rfl rfl 0 (by decide) (mm_h hts mm_w177) (fun _ h9 => h9) rfl (tyX12_ok 0 (by decide)) rfl rfl (Nat.le_of_ble_eq_true rfl) dX12_round_2 ?_
  clear hP hD hS
  clear H locs
  intro H locs (hP : va_P G vwCl [(a_0, .inr (12, [.int 0, .ref a_1, .ref a_2, .ref a_3, .ref a_4, .ref a_5, .int k_0, .int k_1, .int k_2, .int k_3, .int k_4, .long k_5, .int k_6, .int k_7, .int k_8, .int k_9, .ref a_6, .ref a_7, .ref a_8, .ref a_9, .ref a_10, .ref a_11, .ref a_12, .ref a_13, .ref a_14, .ref a_15, .ref a_16, .ref a_17, .ref a_18, .int k_10, .int k_11, .int k_12, .int k_13, .int k_14, .int k_15, .ref a_19, .int k_16, .ref a_20])), (a_7, .inl (cy 1, 30, .inl (fun _ => 0)))] H) (hD : va_D A [(a_0, .inr (12, [.int 0, .ref a_1, .ref a_2, .ref a_3, .ref a_4, .ref a_5, .int k_0, .int k_1, .int k_2, .int k_3, .int k_4, .long k_5, .int k_6, .int k_7, .int k_8, .int k_9, .ref a_6, .ref a_7, .ref a_8, .ref a_9, .ref a_10, .ref a_11, .ref a_12, .ref a_13, .ref a_14, .ref a_15, .ref a_16, .ref a_17, .ref a_18, .int k_10, .int k_11, .int k_12, .int k_13, .int k_14, .int k_15, .ref a_19, .int k_16, .ref a_20])), (a_7, .inl (cy 1, 30, .inl (fun _ => 0)))]) hS
  refine lv_aload_n hx hb dX12_round_5 rfl (lv_at hl 0 rfl) ?_
  refine lv_iload_n hx hb dX12_round_6 rfl (lv_at hl 1 rfl) ?_
  refine mm_finir (va_runV (As := [.int i_0]) (rest := []) ⟨hx, hb, hml, hown, hts⟩ (K126_X12_isLand l G cy H.size a_0 i_0 0 a_1 a_2 a_3 a_4 a_5 k_0 k_1 k_2 k_3 k_4 k_5 k_6 k_7 k_8 k_9 a_6 a_7 a_8 a_9 a_10 a_11 a_12 a_13 a_14 a_15 a_16 a_17 a_18 k_10 k_11 k_12 k_13 k_14 k_15 a_19 k_16 a_20 ) (cwV 1 hts (mm_gV mm_w641 mm_w642 mm_w643 mm_w5 mm_w644) rfl rfl rfl hd_X12_isLand ⟨by rw [hRf]; exact Nat.le_of_ble_eq_true rfl, by rw [hRl]; exact Nat.le_of_ble_eq_true rfl⟩) (mm_preV hK hP hD [0, 1] rfl rfl 0 rfl rfl rfl) rfl rfl hl.1 rfl (lv_room (Nat.le_of_ble_eq_true rfl)) dX12_round_7 ⟨by rw [hRc]; exact Nat.le_of_ble_eq_true rfl, by rw [hRs]; exact Nat.le_of_ble_eq_true rfl⟩) hP hD hS hA [0, 1] rfl (fun _ => rfl) ?_
  clear hP hD hS
  clear H locs
  intro v1 _u H locs hw hP hD hS
  subst hw
  refine lv_if_ne (tgt := 16) hx hb dX12_round_10 (by decide) (fun c2 => ?_) (fun c2 => ?_)
  · have q3 := mm_neL (lo := 1) (mm_ne c2) mm_k0 mm_k0 (by decide) (by decide)
    exact mm_no q3 (by decide)
  · refine lv_bipush (v := (-2)) hx hb dX12_round_13 (by decide) ?_
    subst hAe
    rw [hQ]
    exact W.iret (v := (-2)) hx hb hr (fun t ht hW => ⟨⟨(-2), (), rfl, rfl, by rw [ht]; exact hP, hK.warm hW, hD⟩, hS.F ht⟩) hS.2.2 dX12_round_15

set_option maxHeartbeats 4000000 in
set_option maxRecDepth 100000 in
theorem K136_X11_when (l : Launch) (G : va_G) (cy : Nat → ClassId) (sz : Nat) (a_0 : Nat) (i_0 : Int32) (i_1 : Int32) (i_2 : Int32) (i_3 : Int32) (a_1 : Nat) (a_2 : Nat) (a_3 : Nat) (a_4 : Nat) (a_5 : Nat) (a_6 : Nat) (a_7 : Nat) (a_8 : Nat) (a_9 : Nat) (a_10 : Nat) (a_11 : Nat) (a_24 : Nat) (a_25 : Nat) (k_0 : Int32) (k_1 : Int32) (k_2 : Int32) (k_3 : Int32) (k_4 : Int32) (k_5 : Int32) (k_6 : Int32) (a_26 : Nat) (a_27 : Nat) (a_28 : Nat) (a_29 : Nat) (a_30 : Nat) (a_31 : Nat) (a_32 : Nat) (a_33 : Nat) (a_34 : Nat) (a_35 : Nat)   : mm_CI l yX11_when (mm_ws yX11_when cX11_when 7 (some .int)) ({ frames := 1, cells := 0, slots := 0, locals := 21 } : Room) G cy sz [(a_0, .inr (11, [.ref a_1, .ref a_2, .ref a_3, .ref a_4, .ref a_5, .ref a_6, .ref a_7, .ref a_8, .ref a_9, .ref a_10, .ref a_11])), (a_3, .inr (10, [.ref a_24, .ref a_25])), (a_24, .inr (0, [.int k_0, .int k_1, .int k_2, .int k_3, .int k_4, .int 0, .int k_5, .int k_6, .ref a_26, .ref a_27, .ref a_28, .ref a_29, .ref a_30, .ref a_31, .ref a_32, .ref a_33, .ref a_34, .ref a_35]))] [.ref a_0, .int i_0, .int i_1, .int i_2, .int i_3] (fun u : Unit => [(a_0, .inr (11, [.ref a_1, .ref a_2, .ref a_3, .ref a_4, .ref a_5, .ref a_6, .ref a_7, .ref a_8, .ref a_9, .ref a_10, .ref a_11])), (a_3, .inr (10, [.ref a_24, .ref a_25])), (a_24, .inr (0, [.int k_0, .int k_1, .int k_2, .int k_3, .int k_4, .int 0, .int k_5, .int k_6, .ref a_26, .ref a_27, .ref a_28, .ref a_29, .ref a_30, .ref a_31, .ref a_32, .ref a_33, .ref a_34, .ref a_35]))]) (fun (r : Int32) (u : Unit) => (-2) = r) 0 0 := by
  refine mm_begin (lv := [(0, .ref a_0), (1, .int i_0), (2, .int i_1), (3, .int i_2), (4, .int i_3)]) (by decide) (Nat.le_of_ble_eq_true rfl) rfl ?_
  intro p e s m below meth c A ls R args Q H locs hRe hQ hAe hx hb hr hlocks hml hown hnm hts hsz hA hS hP hK hD hl
  have hRf : R.frames = 1 := by rw [hRe]
  have hRl : R.locals = 21 := by rw [hRe]
  have hRc : R.cells = 0 := by rw [hRe]
  have hRs : R.slots = 0 := by rw [hRe]
  refine lv_aload_n hx hb dX11_when_0 rfl (lv_at hl 0 rfl) ?_
  refine lv_iload_n hx hb dX11_when_1 rfl (lv_at hl 1 rfl) ?_
  refine mm_finir (va_runV (As := [.int i_0]) (rest := []) ⟨hx, hb, hml, hown, hts⟩ (K123_X11_isLand l G cy H.size a_0 i_0 a_1 a_2 a_3 a_4 a_5 a_6 a_7 a_8 a_9 a_10 a_11 a_24 a_25 k_0 k_1 k_2 k_3 k_4 k_5 k_6 a_26 a_27 a_28 a_29 a_30 a_31 a_32 a_33 a_34 a_35 ) (cwV 1 hts (mm_gV mm_w626 mm_w627 mm_w628 mm_w2 mm_w629) rfl rfl rfl hd_X11_isLand ⟨by rw [hRf]; exact Nat.le_of_ble_eq_true rfl, by rw [hRl]; exact Nat.le_of_ble_eq_true rfl⟩) (mm_preV hK hP hD [0, 1, 2] rfl rfl 0 rfl rfl rfl) rfl rfl hl.1 rfl (lv_room (Nat.le_of_ble_eq_true rfl)) dX11_when_2 ⟨by rw [hRc]; exact Nat.le_of_ble_eq_true rfl, by rw [hRs]; exact Nat.le_of_ble_eq_true rfl⟩) hP hD hS hA [0, 1, 2] rfl (fun _ => rfl) ?_
  clear hP hD hS
  clear H locs
  intro v1 _u H locs hw hP hD hS
  subst hw
  refine lv_if_eq (tgt := 32) hx hb dX11_when_5 (by decide) (fun c2 => ?_) (fun c2 => ?_)
  · refine lv_bipush (v := (-2)) hx hb dX11_when_32 (by decide) ?_
    subst hAe
    rw [hQ]
    exact W.iret (v := (-2)) hx hb hr (fun t ht hW => ⟨⟨(-2), (), rfl, rfl, by rw [ht]; exact hP, hK.warm hW, hD⟩, hS.F ht⟩) hS.2.2 dX11_when_34
  · have q3 := mm_neL (lo := 1) (mm_ne c2) mm_k0 mm_k0 (by decide) (by decide)
    exact mm_no q3 (by decide)

set_option maxHeartbeats 4000000 in
set_option maxRecDepth 100000 in
theorem K137_X12_when (l : Launch) (G : va_G) (cy : Nat → ClassId) (sz : Nat) (a_0 : Nat) (i_0 : Int32) (i_1 : Int32) (i_2 : Int32) (i_3 : Int32) (a_1 : Nat) (a_2 : Nat) (a_3 : Nat) (a_4 : Nat) (a_5 : Nat) (k_0 : Int32) (k_1 : Int32) (k_2 : Int32) (k_3 : Int32) (k_4 : Int32) (k_5 : Int64) (k_6 : Int32) (k_7 : Int32) (k_8 : Int32) (k_9 : Int32) (a_6 : Nat) (a_7 : Nat) (a_8 : Nat) (a_9 : Nat) (a_10 : Nat) (a_11 : Nat) (a_12 : Nat) (a_13 : Nat) (a_14 : Nat) (a_15 : Nat) (a_16 : Nat) (a_17 : Nat) (a_18 : Nat) (k_10 : Int32) (k_11 : Int32) (k_12 : Int32) (k_13 : Int32) (k_14 : Int32) (k_15 : Int32) (a_19 : Nat) (k_16 : Int32) (a_20 : Nat)   : mm_CI l yX12_when (mm_ws yX12_when cX12_when 6 (some .int)) ({ frames := 3, cells := 0, slots := 0, locals := 68 } : Room) G cy sz [(a_0, .inr (12, [.int 0, .ref a_1, .ref a_2, .ref a_3, .ref a_4, .ref a_5, .int k_0, .int k_1, .int k_2, .int k_3, .int k_4, .long k_5, .int k_6, .int k_7, .int k_8, .int k_9, .ref a_6, .ref a_7, .ref a_8, .ref a_9, .ref a_10, .ref a_11, .ref a_12, .ref a_13, .ref a_14, .ref a_15, .ref a_16, .ref a_17, .ref a_18, .int k_10, .int k_11, .int k_12, .int k_13, .int k_14, .int k_15, .ref a_19, .int k_16, .ref a_20])), (a_7, .inl (cy 1, 30, .inl (fun _ => 0)))] [.ref a_0, .int i_0, .int i_1, .int i_2, .int i_3] (fun u : Unit => [(a_0, .inr (12, [.int 0, .ref a_1, .ref a_2, .ref a_3, .ref a_4, .ref a_5, .int k_0, .int k_1, .int k_2, .int k_3, .int k_4, .long k_5, .int k_6, .int k_7, .int k_8, .int k_9, .ref a_6, .ref a_7, .ref a_8, .ref a_9, .ref a_10, .ref a_11, .ref a_12, .ref a_13, .ref a_14, .ref a_15, .ref a_16, .ref a_17, .ref a_18, .int k_10, .int k_11, .int k_12, .int k_13, .int k_14, .int k_15, .ref a_19, .int k_16, .ref a_20])), (a_7, .inl (cy 1, 30, .inl (fun _ => 0)))]) (fun (r : Int32) (u : Unit) => (-2) = r) 0 0 := by
  refine mm_begin (lv := [(0, .ref a_0), (1, .int i_0), (2, .int i_1), (3, .int i_2), (4, .int i_3)]) (by decide) (Nat.le_of_ble_eq_true rfl) rfl ?_
  intro p e s m below meth c A ls R args Q H locs hRe hQ hAe hx hb hr hlocks hml hown hnm hts hsz hA hS hP hK hD hl
  have hRf : R.frames = 3 := by rw [hRe]
  have hRl : R.locals = 68 := by rw [hRe]
  have hRc : R.cells = 0 := by rw [hRe]
  have hRs : R.slots = 0 := by rw [hRe]
  refine lv_aload_n hx hb dX12_when_0 rfl (lv_at hl 0 rfl) ?_
  refine lv_iconst (v := 0) hx hb dX12_when_1 (by decide) ?_
  refine va_put (D := G) (ci := 12) (v := .int 0) (ty := tyX12 0) (C := RX12) (T := TX12) (N := 38) hx hb hts (mm_i inlX12) tyX12 tyX12_ok nmX12 hown hK.1 hP hD hS 0 rfl rfl 0 (by decide) (mm_h hts mm_w177) (fun _ h9 => h9) rfl (tyX12_ok 0 (by decide)) rfl rfl (Nat.le_of_ble_eq_true rfl) dX12_when_2 ?_
  clear hP hD hS
  clear H locs
  intro H locs (hP : va_P G vwCl [(a_0, .inr (12, [.int 0, .ref a_1, .ref a_2, .ref a_3, .ref a_4, .ref a_5, .int k_0, .int k_1, .int k_2, .int k_3, .int k_4, .long k_5, .int k_6, .int k_7, .int k_8, .int k_9, .ref a_6, .ref a_7, .ref a_8, .ref a_9, .ref a_10, .ref a_11, .ref a_12, .ref a_13, .ref a_14, .ref a_15, .ref a_16, .ref a_17, .ref a_18, .int k_10, .int k_11, .int k_12, .int k_13, .int k_14, .int k_15, .ref a_19, .int k_16, .ref a_20])), (a_7, .inl (cy 1, 30, .inl (fun _ => 0)))] H) (hD : va_D A [(a_0, .inr (12, [.int 0, .ref a_1, .ref a_2, .ref a_3, .ref a_4, .ref a_5, .int k_0, .int k_1, .int k_2, .int k_3, .int k_4, .long k_5, .int k_6, .int k_7, .int k_8, .int k_9, .ref a_6, .ref a_7, .ref a_8, .ref a_9, .ref a_10, .ref a_11, .ref a_12, .ref a_13, .ref a_14, .ref a_15, .ref a_16, .ref a_17, .ref a_18, .int k_10, .int k_11, .int k_12, .int k_13, .int k_14, .int k_15, .ref a_19, .int k_16, .ref a_20])), (a_7, .inl (cy 1, 30, .inl (fun _ => 0)))]) hS
  refine lv_aload_n hx hb dX12_when_5 rfl (lv_at hl 0 rfl) ?_
  refine lv_iload_n hx hb dX12_when_6 rfl (lv_at hl 1 rfl) ?_
  refine lv_iload hx hb dX12_when_7 (lv_at hl 4 rfl) ?_
  refine mm_finir (va_runV (As := [.int i_0, .int i_3]) (rest := []) ⟨hx, hb, hml, hown, hts⟩ (K131_X12_isThen l G cy H.size a_0 i_0 i_3 0 a_1 a_2 a_3 a_4 a_5 k_0 k_1 k_2 k_3 k_4 k_5 k_6 k_7 k_8 k_9 a_6 a_7 a_8 a_9 a_10 a_11 a_12 a_13 a_14 a_15 a_16 a_17 a_18 k_10 k_11 k_12 k_13 k_14 k_15 a_19 k_16 a_20 ) (cwV 2 hts (mm_gV mm_w678 mm_w679 mm_w680 mm_w5 mm_w681) rfl rfl rfl hd_X12_isThen ⟨by rw [hRf]; exact Nat.le_of_ble_eq_true rfl, by rw [hRl]; exact Nat.le_of_ble_eq_true rfl⟩) (mm_preV hK hP hD [0, 1] rfl rfl 0 rfl rfl rfl) rfl rfl hl.1 rfl (lv_room (Nat.le_of_ble_eq_true rfl)) dX12_when_9 ⟨by rw [hRc]; exact Nat.le_of_ble_eq_true rfl, by rw [hRs]; exact Nat.le_of_ble_eq_true rfl⟩) hP hD hS hA [0, 1] rfl (fun _ => rfl) ?_
  clear hP hD hS
  clear H locs
  intro v1 _u H locs hw hP hD hS
  subst hw
  refine lv_if_eq (tgt := 31) hx hb dX12_when_12 (by decide) (fun c2 => ?_) (fun c2 => ?_)
  · refine lv_bipush (v := (-2)) hx hb dX12_when_31 (by decide) ?_
    subst hAe
    rw [hQ]
    exact W.iret (v := (-2)) hx hb hr (fun t ht hW => ⟨⟨(-2), (), rfl, rfl, by rw [ht]; exact hP, hK.warm hW, hD⟩, hS.F ht⟩) hS.2.2 dX12_when_33
  · have q3 := mm_neL (lo := 1) (mm_ne c2) mm_k0 mm_k0 (by decide) (by decide)
    exact mm_no q3 (by decide)

set_option maxHeartbeats 4000000 in
set_option maxRecDepth 100000 in
theorem K138_X11_often (l : Launch) (G : va_G) (cy : Nat → ClassId) (sz : Nat) (a_0 : Nat) (i_0 : Int32) (i_1 : Int32) (i_2 : Int32) (a_1 : Nat) (a_2 : Nat) (a_3 : Nat) (a_4 : Nat) (a_5 : Nat) (a_6 : Nat) (a_7 : Nat) (a_8 : Nat) (a_9 : Nat) (a_10 : Nat) (a_11 : Nat) (a_24 : Nat) (a_25 : Nat) (k_0 : Int32) (k_1 : Int32) (k_2 : Int32) (k_3 : Int32) (k_4 : Int32) (k_5 : Int32) (k_6 : Int32) (a_26 : Nat) (a_27 : Nat) (a_28 : Nat) (a_29 : Nat) (a_30 : Nat) (a_31 : Nat) (a_32 : Nat) (a_33 : Nat) (a_34 : Nat) (a_35 : Nat)   : mm_CI l yX11_often (mm_ws yX11_often cX11_often 4 (some .int)) ({ frames := 1, cells := 0, slots := 0, locals := 21 } : Room) G cy sz [(a_0, .inr (11, [.ref a_1, .ref a_2, .ref a_3, .ref a_4, .ref a_5, .ref a_6, .ref a_7, .ref a_8, .ref a_9, .ref a_10, .ref a_11])), (a_3, .inr (10, [.ref a_24, .ref a_25])), (a_24, .inr (0, [.int k_0, .int k_1, .int k_2, .int k_3, .int k_4, .int 0, .int k_5, .int k_6, .ref a_26, .ref a_27, .ref a_28, .ref a_29, .ref a_30, .ref a_31, .ref a_32, .ref a_33, .ref a_34, .ref a_35]))] [.ref a_0, .int i_0, .int i_1, .int i_2] (fun u : Unit => [(a_0, .inr (11, [.ref a_1, .ref a_2, .ref a_3, .ref a_4, .ref a_5, .ref a_6, .ref a_7, .ref a_8, .ref a_9, .ref a_10, .ref a_11])), (a_3, .inr (10, [.ref a_24, .ref a_25])), (a_24, .inr (0, [.int k_0, .int k_1, .int k_2, .int k_3, .int k_4, .int 0, .int k_5, .int k_6, .ref a_26, .ref a_27, .ref a_28, .ref a_29, .ref a_30, .ref a_31, .ref a_32, .ref a_33, .ref a_34, .ref a_35]))]) (fun (r : Int32) (u : Unit) => (-2) = r) 0 0 := by
  refine mm_begin (lv := [(0, .ref a_0), (1, .int i_0), (2, .int i_1), (3, .int i_2)]) (by decide) (Nat.le_of_ble_eq_true rfl) rfl ?_
  intro p e s m below meth c A ls R args Q H locs hRe hQ hAe hx hb hr hlocks hml hown hnm hts hsz hA hS hP hK hD hl
  have hRf : R.frames = 1 := by rw [hRe]
  have hRl : R.locals = 21 := by rw [hRe]
  have hRc : R.cells = 0 := by rw [hRe]
  have hRs : R.slots = 0 := by rw [hRe]
  refine lv_aload_n hx hb dX11_often_0 rfl (lv_at hl 0 rfl) ?_
  refine lv_iload_n hx hb dX11_often_1 rfl (lv_at hl 1 rfl) ?_
  refine mm_finir (va_runV (As := [.int i_0]) (rest := []) ⟨hx, hb, hml, hown, hts⟩ (K123_X11_isLand l G cy H.size a_0 i_0 a_1 a_2 a_3 a_4 a_5 a_6 a_7 a_8 a_9 a_10 a_11 a_24 a_25 k_0 k_1 k_2 k_3 k_4 k_5 k_6 a_26 a_27 a_28 a_29 a_30 a_31 a_32 a_33 a_34 a_35 ) (cwV 1 hts (mm_gV mm_w626 mm_w627 mm_w628 mm_w2 mm_w629) rfl rfl rfl hd_X11_isLand ⟨by rw [hRf]; exact Nat.le_of_ble_eq_true rfl, by rw [hRl]; exact Nat.le_of_ble_eq_true rfl⟩) (mm_preV hK hP hD [0, 1, 2] rfl rfl 0 rfl rfl rfl) rfl rfl hl.1 rfl (lv_room (Nat.le_of_ble_eq_true rfl)) dX11_often_2 ⟨by rw [hRc]; exact Nat.le_of_ble_eq_true rfl, by rw [hRs]; exact Nat.le_of_ble_eq_true rfl⟩) hP hD hS hA [0, 1, 2] rfl (fun _ => rfl) ?_
  clear hP hD hS
  clear H locs
  intro v1 _u H locs hw hP hD hS
  subst hw
  refine lv_if_eq (tgt := 24) hx hb dX11_often_5 (by decide) (fun c2 => ?_) (fun c2 => ?_)
  · refine lv_bipush (v := (-2)) hx hb dX11_often_24 (by decide) ?_
    subst hAe
    rw [hQ]
    exact W.iret (v := (-2)) hx hb hr (fun t ht hW => ⟨⟨(-2), (), rfl, rfl, by rw [ht]; exact hP, hK.warm hW, hD⟩, hS.F ht⟩) hS.2.2 dX11_often_26
  · have q3 := mm_neL (lo := 1) (mm_ne c2) mm_k0 mm_k0 (by decide) (by decide)
    exact mm_no q3 (by decide)

set_option maxHeartbeats 4000000 in
set_option maxRecDepth 100000 in
theorem K139_X12_often (l : Launch) (G : va_G) (cy : Nat → ClassId) (sz : Nat) (a_0 : Nat) (i_0 : Int32) (i_1 : Int32) (i_2 : Int32) (a_1 : Nat) (a_2 : Nat) (a_3 : Nat) (a_4 : Nat) (a_5 : Nat) (k_0 : Int32) (k_1 : Int32) (k_2 : Int32) (k_3 : Int32) (k_4 : Int32) (k_5 : Int64) (k_6 : Int32) (k_7 : Int32) (k_8 : Int32) (k_9 : Int32) (a_6 : Nat) (a_7 : Nat) (a_8 : Nat) (a_9 : Nat) (a_10 : Nat) (a_11 : Nat) (a_12 : Nat) (a_13 : Nat) (a_14 : Nat) (a_15 : Nat) (a_16 : Nat) (a_17 : Nat) (a_18 : Nat) (k_10 : Int32) (k_11 : Int32) (k_12 : Int32) (k_13 : Int32) (k_14 : Int32) (k_15 : Int32) (a_19 : Nat) (k_16 : Int32) (a_20 : Nat)   : mm_CI l yX12_often (mm_ws yX12_often cX12_often 4 (some .int)) ({ frames := 2, cells := 0, slots := 0, locals := 46 } : Room) G cy sz [(a_0, .inr (12, [.int 0, .ref a_1, .ref a_2, .ref a_3, .ref a_4, .ref a_5, .int k_0, .int k_1, .int k_2, .int k_3, .int k_4, .long k_5, .int k_6, .int k_7, .int k_8, .int k_9, .ref a_6, .ref a_7, .ref a_8, .ref a_9, .ref a_10, .ref a_11, .ref a_12, .ref a_13, .ref a_14, .ref a_15, .ref a_16, .ref a_17, .ref a_18, .int k_10, .int k_11, .int k_12, .int k_13, .int k_14, .int k_15, .ref a_19, .int k_16, .ref a_20])), (a_7, .inl (cy 1, 30, .inl (fun _ => 0)))] [.ref a_0, .int i_0, .int i_1, .int i_2] (fun u : Unit => [(a_0, .inr (12, [.int 0, .ref a_1, .ref a_2, .ref a_3, .ref a_4, .ref a_5, .int k_0, .int k_1, .int k_2, .int k_3, .int k_4, .long k_5, .int k_6, .int k_7, .int k_8, .int k_9, .ref a_6, .ref a_7, .ref a_8, .ref a_9, .ref a_10, .ref a_11, .ref a_12, .ref a_13, .ref a_14, .ref a_15, .ref a_16, .ref a_17, .ref a_18, .int k_10, .int k_11, .int k_12, .int k_13, .int k_14, .int k_15, .ref a_19, .int k_16, .ref a_20])), (a_7, .inl (cy 1, 30, .inl (fun _ => 0)))]) (fun (r : Int32) (u : Unit) => (-2) = r) 0 0 := by
  refine mm_begin (lv := [(0, .ref a_0), (1, .int i_0), (2, .int i_1), (3, .int i_2)]) (by decide) (Nat.le_of_ble_eq_true rfl) rfl ?_
  intro p e s m below meth c A ls R args Q H locs hRe hQ hAe hx hb hr hlocks hml hown hnm hts hsz hA hS hP hK hD hl
  have hRf : R.frames = 2 := by rw [hRe]
  have hRl : R.locals = 46 := by rw [hRe]
  have hRc : R.cells = 0 := by rw [hRe]
  have hRs : R.slots = 0 := by rw [hRe]
  refine lv_aload_n hx hb dX12_often_0 rfl (lv_at hl 0 rfl) ?_
  refine lv_iconst (v := 0) hx hb dX12_often_1 (by decide) ?_
  refine va_put (D := G) (ci := 12) (v := .int 0) (ty := tyX12 0) (C := RX12) (T := TX12) (N := 38) hx hb hts (mm_i inlX12) tyX12 tyX12_ok nmX12 hown hK.1 hP hD hS 0 rfl rfl 0 (by decide) (mm_h hts mm_w177) (fun _ h9 => h9) rfl (tyX12_ok 0 (by decide)) rfl rfl (Nat.le_of_ble_eq_true rfl) dX12_often_2 ?_
  clear hP hD hS
  clear H locs
  intro H locs (hP : va_P G vwCl [(a_0, .inr (12, [.int 0, .ref a_1, .ref a_2, .ref a_3, .ref a_4, .ref a_5, .int k_0, .int k_1, .int k_2, .int k_3, .int k_4, .long k_5, .int k_6, .int k_7, .int k_8, .int k_9, .ref a_6, .ref a_7, .ref a_8, .ref a_9, .ref a_10, .ref a_11, .ref a_12, .ref a_13, .ref a_14, .ref a_15, .ref a_16, .ref a_17, .ref a_18, .int k_10, .int k_11, .int k_12, .int k_13, .int k_14, .int k_15, .ref a_19, .int k_16, .ref a_20])), (a_7, .inl (cy 1, 30, .inl (fun _ => 0)))] H) (hD : va_D A [(a_0, .inr (12, [.int 0, .ref a_1, .ref a_2, .ref a_3, .ref a_4, .ref a_5, .int k_0, .int k_1, .int k_2, .int k_3, .int k_4, .long k_5, .int k_6, .int k_7, .int k_8, .int k_9, .ref a_6, .ref a_7, .ref a_8, .ref a_9, .ref a_10, .ref a_11, .ref a_12, .ref a_13, .ref a_14, .ref a_15, .ref a_16, .ref a_17, .ref a_18, .int k_10, .int k_11, .int k_12, .int k_13, .int k_14, .int k_15, .ref a_19, .int k_16, .ref a_20])), (a_7, .inl (cy 1, 30, .inl (fun _ => 0)))]) hS
  refine lv_aload_n hx hb dX12_often_5 rfl (lv_at hl 0 rfl) ?_
  refine lv_iload_n hx hb dX12_often_6 rfl (lv_at hl 1 rfl) ?_
  refine mm_finir (va_runV (As := [.int i_0]) (rest := []) ⟨hx, hb, hml, hown, hts⟩ (K126_X12_isLand l G cy H.size a_0 i_0 0 a_1 a_2 a_3 a_4 a_5 k_0 k_1 k_2 k_3 k_4 k_5 k_6 k_7 k_8 k_9 a_6 a_7 a_8 a_9 a_10 a_11 a_12 a_13 a_14 a_15 a_16 a_17 a_18 k_10 k_11 k_12 k_13 k_14 k_15 a_19 k_16 a_20 ) (cwV 1 hts (mm_gV mm_w641 mm_w642 mm_w643 mm_w5 mm_w644) rfl rfl rfl hd_X12_isLand ⟨by rw [hRf]; exact Nat.le_of_ble_eq_true rfl, by rw [hRl]; exact Nat.le_of_ble_eq_true rfl⟩) (mm_preV hK hP hD [0, 1] rfl rfl 0 rfl rfl rfl) rfl rfl hl.1 rfl (lv_room (Nat.le_of_ble_eq_true rfl)) dX12_often_7 ⟨by rw [hRc]; exact Nat.le_of_ble_eq_true rfl, by rw [hRs]; exact Nat.le_of_ble_eq_true rfl⟩) hP hD hS hA [0, 1] rfl (fun _ => rfl) ?_
  clear hP hD hS
  clear H locs
  intro v1 _u H locs hw hP hD hS
  subst hw
  refine lv_if_eq (tgt := 29) hx hb dX12_often_10 (by decide) (fun c2 => ?_) (fun c2 => ?_)
  · refine lv_bipush (v := (-2)) hx hb dX12_often_29 (by decide) ?_
    subst hAe
    rw [hQ]
    exact W.iret (v := (-2)) hx hb hr (fun t ht hW => ⟨⟨(-2), (), rfl, rfl, by rw [ht]; exact hP, hK.warm hW, hD⟩, hS.F ht⟩) hS.2.2 dX12_often_31
  · have q3 := mm_neL (lo := 1) (mm_ne c2) mm_k0 mm_k0 (by decide) (by decide)
    exact mm_no q3 (by decide)

set_option maxHeartbeats 4000000 in
set_option maxRecDepth 100000 in
theorem K140_X11_may (l : Launch) (G : va_G) (cy : Nat → ClassId) (sz : Nat) (a_0 : Nat) (i_0 : Int32) (i_1 : Int32) (a_1 : Nat) (a_2 : Nat) (a_3 : Nat) (a_4 : Nat) (a_5 : Nat) (a_6 : Nat) (a_7 : Nat) (a_8 : Nat) (a_9 : Nat) (a_10 : Nat) (a_11 : Nat) (a_24 : Nat) (a_25 : Nat) (k_0 : Int32) (k_1 : Int32) (k_2 : Int32) (k_3 : Int32) (k_4 : Int32) (k_5 : Int32) (k_6 : Int32) (a_26 : Nat) (a_27 : Nat) (a_28 : Nat) (a_29 : Nat) (a_30 : Nat) (a_31 : Nat) (a_32 : Nat) (a_33 : Nat) (a_34 : Nat) (a_35 : Nat)   : mm_CI l yX11_may (mm_ws yX11_may cX11_may 6 (some .int)) ({ frames := 1, cells := 0, slots := 0, locals := 21 } : Room) G cy sz [(a_0, .inr (11, [.ref a_1, .ref a_2, .ref a_3, .ref a_4, .ref a_5, .ref a_6, .ref a_7, .ref a_8, .ref a_9, .ref a_10, .ref a_11])), (a_3, .inr (10, [.ref a_24, .ref a_25])), (a_24, .inr (0, [.int k_0, .int k_1, .int k_2, .int k_3, .int k_4, .int 0, .int k_5, .int k_6, .ref a_26, .ref a_27, .ref a_28, .ref a_29, .ref a_30, .ref a_31, .ref a_32, .ref a_33, .ref a_34, .ref a_35]))] [.ref a_0, .int i_0, .int i_1] (fun u : Unit => [(a_0, .inr (11, [.ref a_1, .ref a_2, .ref a_3, .ref a_4, .ref a_5, .ref a_6, .ref a_7, .ref a_8, .ref a_9, .ref a_10, .ref a_11])), (a_3, .inr (10, [.ref a_24, .ref a_25])), (a_24, .inr (0, [.int k_0, .int k_1, .int k_2, .int k_3, .int k_4, .int 0, .int k_5, .int k_6, .ref a_26, .ref a_27, .ref a_28, .ref a_29, .ref a_30, .ref a_31, .ref a_32, .ref a_33, .ref a_34, .ref a_35]))]) (fun (r : Int32) (u : Unit) => (-2) = r) 0 0 := by
  refine mm_begin (lv := [(0, .ref a_0), (1, .int i_0), (2, .int i_1)]) (by decide) (Nat.le_of_ble_eq_true rfl) rfl ?_
  intro p e s m below meth c A ls R args Q H locs hRe hQ hAe hx hb hr hlocks hml hown hnm hts hsz hA hS hP hK hD hl
  have hRf : R.frames = 1 := by rw [hRe]
  have hRl : R.locals = 21 := by rw [hRe]
  have hRc : R.cells = 0 := by rw [hRe]
  have hRs : R.slots = 0 := by rw [hRe]
  refine lv_aload_n hx hb dX11_may_0 rfl (lv_at hl 0 rfl) ?_
  refine lv_iload_n hx hb dX11_may_1 rfl (lv_at hl 1 rfl) ?_
  refine mm_finir (va_runV (As := [.int i_0]) (rest := []) ⟨hx, hb, hml, hown, hts⟩ (K123_X11_isLand l G cy H.size a_0 i_0 a_1 a_2 a_3 a_4 a_5 a_6 a_7 a_8 a_9 a_10 a_11 a_24 a_25 k_0 k_1 k_2 k_3 k_4 k_5 k_6 a_26 a_27 a_28 a_29 a_30 a_31 a_32 a_33 a_34 a_35 ) (cwV 1 hts (mm_gV mm_w626 mm_w627 mm_w628 mm_w2 mm_w629) rfl rfl rfl hd_X11_isLand ⟨by rw [hRf]; exact Nat.le_of_ble_eq_true rfl, by rw [hRl]; exact Nat.le_of_ble_eq_true rfl⟩) (mm_preV hK hP hD [0, 1, 2] rfl rfl 0 rfl rfl rfl) rfl rfl hl.1 rfl (lv_room (Nat.le_of_ble_eq_true rfl)) dX11_may_2 ⟨by rw [hRc]; exact Nat.le_of_ble_eq_true rfl, by rw [hRs]; exact Nat.le_of_ble_eq_true rfl⟩) hP hD hS hA [0, 1, 2] rfl (fun _ => rfl) ?_
  clear hP hD hS
  clear H locs
  intro v1 _u H locs hw hP hD hS
  subst hw
  refine lv_if_eq (tgt := 16) hx hb dX11_may_5 (by decide) (fun c2 => ?_) (fun c2 => ?_)
  · refine lv_bipush (v := (-2)) hx hb dX11_may_16 (by decide) ?_
    subst hAe
    rw [hQ]
    exact W.iret (v := (-2)) hx hb hr (fun t ht hW => ⟨⟨(-2), (), rfl, rfl, by rw [ht]; exact hP, hK.warm hW, hD⟩, hS.F ht⟩) hS.2.2 dX11_may_18
  · have q3 := mm_neL (lo := 1) (mm_ne c2) mm_k0 mm_k0 (by decide) (by decide)
    exact mm_no q3 (by decide)

set_option maxHeartbeats 4000000 in
set_option maxRecDepth 100000 in
theorem K141_X12_may (l : Launch) (G : va_G) (cy : Nat → ClassId) (sz : Nat) (a_0 : Nat) (i_0 : Int32) (i_1 : Int32) (a_1 : Nat) (a_2 : Nat) (a_3 : Nat) (a_4 : Nat) (a_5 : Nat) (k_0 : Int32) (k_1 : Int32) (k_2 : Int32) (k_3 : Int32) (k_4 : Int32) (k_5 : Int64) (k_6 : Int32) (k_7 : Int32) (k_8 : Int32) (k_9 : Int32) (a_6 : Nat) (a_7 : Nat) (a_8 : Nat) (a_9 : Nat) (a_10 : Nat) (a_11 : Nat) (a_12 : Nat) (a_13 : Nat) (a_14 : Nat) (a_15 : Nat) (a_16 : Nat) (a_17 : Nat) (a_18 : Nat) (k_10 : Int32) (k_11 : Int32) (k_12 : Int32) (k_13 : Int32) (k_14 : Int32) (k_15 : Int32) (a_19 : Nat) (k_16 : Int32) (a_20 : Nat)   : mm_CI l yX12_may (mm_ws yX12_may cX12_may 5 (some .int)) ({ frames := 2, cells := 0, slots := 0, locals := 46 } : Room) G cy sz [(a_0, .inr (12, [.int 0, .ref a_1, .ref a_2, .ref a_3, .ref a_4, .ref a_5, .int k_0, .int k_1, .int k_2, .int k_3, .int k_4, .long k_5, .int k_6, .int k_7, .int k_8, .int k_9, .ref a_6, .ref a_7, .ref a_8, .ref a_9, .ref a_10, .ref a_11, .ref a_12, .ref a_13, .ref a_14, .ref a_15, .ref a_16, .ref a_17, .ref a_18, .int k_10, .int k_11, .int k_12, .int k_13, .int k_14, .int k_15, .ref a_19, .int k_16, .ref a_20])), (a_7, .inl (cy 1, 30, .inl (fun _ => 0)))] [.ref a_0, .int i_0, .int i_1] (fun u : Unit => [(a_0, .inr (12, [.int 0, .ref a_1, .ref a_2, .ref a_3, .ref a_4, .ref a_5, .int k_0, .int k_1, .int k_2, .int k_3, .int k_4, .long k_5, .int k_6, .int k_7, .int k_8, .int k_9, .ref a_6, .ref a_7, .ref a_8, .ref a_9, .ref a_10, .ref a_11, .ref a_12, .ref a_13, .ref a_14, .ref a_15, .ref a_16, .ref a_17, .ref a_18, .int k_10, .int k_11, .int k_12, .int k_13, .int k_14, .int k_15, .ref a_19, .int k_16, .ref a_20])), (a_7, .inl (cy 1, 30, .inl (fun _ => 0)))]) (fun (r : Int32) (u : Unit) => (-2) = r) 0 0 := by
  refine mm_begin (lv := [(0, .ref a_0), (1, .int i_0), (2, .int i_1)]) (by decide) (Nat.le_of_ble_eq_true rfl) rfl ?_
  intro p e s m below meth c A ls R args Q H locs hRe hQ hAe hx hb hr hlocks hml hown hnm hts hsz hA hS hP hK hD hl
  have hRf : R.frames = 2 := by rw [hRe]
  have hRl : R.locals = 46 := by rw [hRe]
  have hRc : R.cells = 0 := by rw [hRe]
  have hRs : R.slots = 0 := by rw [hRe]
  refine lv_aload_n hx hb dX12_may_0 rfl (lv_at hl 0 rfl) ?_
  refine lv_iconst (v := 0) hx hb dX12_may_1 (by decide) ?_
  refine va_put (D := G) (ci := 12) (v := .int 0) (ty := tyX12 0) (C := RX12) (T := TX12) (N := 38) hx hb hts (mm_i inlX12) tyX12 tyX12_ok nmX12 hown hK.1 hP hD hS 0 rfl rfl 0 (by decide) (mm_h hts mm_w177) (fun _ h9 => h9) rfl (tyX12_ok 0 (by decide)) rfl rfl (Nat.le_of_ble_eq_true rfl) dX12_may_2 ?_
  clear hP hD hS
  clear H locs
  intro H locs (hP : va_P G vwCl [(a_0, .inr (12, [.int 0, .ref a_1, .ref a_2, .ref a_3, .ref a_4, .ref a_5, .int k_0, .int k_1, .int k_2, .int k_3, .int k_4, .long k_5, .int k_6, .int k_7, .int k_8, .int k_9, .ref a_6, .ref a_7, .ref a_8, .ref a_9, .ref a_10, .ref a_11, .ref a_12, .ref a_13, .ref a_14, .ref a_15, .ref a_16, .ref a_17, .ref a_18, .int k_10, .int k_11, .int k_12, .int k_13, .int k_14, .int k_15, .ref a_19, .int k_16, .ref a_20])), (a_7, .inl (cy 1, 30, .inl (fun _ => 0)))] H) (hD : va_D A [(a_0, .inr (12, [.int 0, .ref a_1, .ref a_2, .ref a_3, .ref a_4, .ref a_5, .int k_0, .int k_1, .int k_2, .int k_3, .int k_4, .long k_5, .int k_6, .int k_7, .int k_8, .int k_9, .ref a_6, .ref a_7, .ref a_8, .ref a_9, .ref a_10, .ref a_11, .ref a_12, .ref a_13, .ref a_14, .ref a_15, .ref a_16, .ref a_17, .ref a_18, .int k_10, .int k_11, .int k_12, .int k_13, .int k_14, .int k_15, .ref a_19, .int k_16, .ref a_20])), (a_7, .inl (cy 1, 30, .inl (fun _ => 0)))]) hS
  refine lv_aload_n hx hb dX12_may_5 rfl (lv_at hl 0 rfl) ?_
  refine lv_iload_n hx hb dX12_may_6 rfl (lv_at hl 1 rfl) ?_
  refine mm_finir (va_runV (As := [.int i_0]) (rest := []) ⟨hx, hb, hml, hown, hts⟩ (K126_X12_isLand l G cy H.size a_0 i_0 0 a_1 a_2 a_3 a_4 a_5 k_0 k_1 k_2 k_3 k_4 k_5 k_6 k_7 k_8 k_9 a_6 a_7 a_8 a_9 a_10 a_11 a_12 a_13 a_14 a_15 a_16 a_17 a_18 k_10 k_11 k_12 k_13 k_14 k_15 a_19 k_16 a_20 ) (cwV 1 hts (mm_gV mm_w641 mm_w642 mm_w643 mm_w5 mm_w644) rfl rfl rfl hd_X12_isLand ⟨by rw [hRf]; exact Nat.le_of_ble_eq_true rfl, by rw [hRl]; exact Nat.le_of_ble_eq_true rfl⟩) (mm_preV hK hP hD [0, 1] rfl rfl 0 rfl rfl rfl) rfl rfl hl.1 rfl (lv_room (Nat.le_of_ble_eq_true rfl)) dX12_may_7 ⟨by rw [hRc]; exact Nat.le_of_ble_eq_true rfl, by rw [hRs]; exact Nat.le_of_ble_eq_true rfl⟩) hP hD hS hA [0, 1] rfl (fun _ => rfl) ?_
  clear hP hD hS
  clear H locs
  intro v1 _u H locs hw hP hD hS
  subst hw
  refine lv_if_eq (tgt := 21) hx hb dX12_may_10 (by decide) (fun c2 => ?_) (fun c2 => ?_)
  · refine lv_bipush (v := (-2)) hx hb dX12_may_21 (by decide) ?_
    subst hAe
    rw [hQ]
    exact W.iret (v := (-2)) hx hb hr (fun t ht hW => ⟨⟨(-2), (), rfl, rfl, by rw [ht]; exact hP, hK.warm hW, hD⟩, hS.F ht⟩) hS.2.2 dX12_may_23
  · have q3 := mm_neL (lo := 1) (mm_ne c2) mm_k0 mm_k0 (by decide) (by decide)
    exact mm_no q3 (by decide)

set_option maxHeartbeats 4000000 in
set_option maxRecDepth 100000 in
theorem K142_X11_mute (l : Launch) (G : va_G) (cy : Nat → ClassId) (sz : Nat) (a_0 : Nat) (i_0 : Int32) (a_1 : Nat) (a_2 : Nat) (a_3 : Nat) (a_4 : Nat) (a_5 : Nat) (a_6 : Nat) (a_7 : Nat) (a_8 : Nat) (a_9 : Nat) (a_10 : Nat) (a_11 : Nat) (a_24 : Nat) (a_25 : Nat) (k_0 : Int32) (k_1 : Int32) (k_2 : Int32) (k_3 : Int32) (k_4 : Int32) (k_5 : Int32) (k_6 : Int32) (a_26 : Nat) (a_27 : Nat) (a_28 : Nat) (a_29 : Nat) (a_30 : Nat) (a_31 : Nat) (a_32 : Nat) (a_33 : Nat) (a_34 : Nat) (a_35 : Nat)   : mm_CI l yX11_mute (mm_ws yX11_mute cX11_mute 2 (some .int)) ({ frames := 1, cells := 0, slots := 0, locals := 21 } : Room) G cy sz [(a_0, .inr (11, [.ref a_1, .ref a_2, .ref a_3, .ref a_4, .ref a_5, .ref a_6, .ref a_7, .ref a_8, .ref a_9, .ref a_10, .ref a_11])), (a_3, .inr (10, [.ref a_24, .ref a_25])), (a_24, .inr (0, [.int k_0, .int k_1, .int k_2, .int k_3, .int k_4, .int 0, .int k_5, .int k_6, .ref a_26, .ref a_27, .ref a_28, .ref a_29, .ref a_30, .ref a_31, .ref a_32, .ref a_33, .ref a_34, .ref a_35]))] [.ref a_0, .int i_0] (fun u : Unit => [(a_0, .inr (11, [.ref a_1, .ref a_2, .ref a_3, .ref a_4, .ref a_5, .ref a_6, .ref a_7, .ref a_8, .ref a_9, .ref a_10, .ref a_11])), (a_3, .inr (10, [.ref a_24, .ref a_25])), (a_24, .inr (0, [.int k_0, .int k_1, .int k_2, .int k_3, .int k_4, .int 0, .int k_5, .int k_6, .ref a_26, .ref a_27, .ref a_28, .ref a_29, .ref a_30, .ref a_31, .ref a_32, .ref a_33, .ref a_34, .ref a_35]))]) (fun (r : Int32) (u : Unit) => (-2) = r) 0 0 := by
  refine mm_begin (lv := [(0, .ref a_0), (1, .int i_0)]) (by decide) (Nat.le_of_ble_eq_true rfl) rfl ?_
  intro p e s m below meth c A ls R args Q H locs hRe hQ hAe hx hb hr hlocks hml hown hnm hts hsz hA hS hP hK hD hl
  have hRf : R.frames = 1 := by rw [hRe]
  have hRl : R.locals = 21 := by rw [hRe]
  have hRc : R.cells = 0 := by rw [hRe]
  have hRs : R.slots = 0 := by rw [hRe]
  refine lv_aload_n hx hb dX11_mute_0 rfl (lv_at hl 0 rfl) ?_
  refine lv_iload_n hx hb dX11_mute_1 rfl (lv_at hl 1 rfl) ?_
  refine mm_finir (va_runV (As := [.int i_0]) (rest := []) ⟨hx, hb, hml, hown, hts⟩ (K123_X11_isLand l G cy H.size a_0 i_0 a_1 a_2 a_3 a_4 a_5 a_6 a_7 a_8 a_9 a_10 a_11 a_24 a_25 k_0 k_1 k_2 k_3 k_4 k_5 k_6 a_26 a_27 a_28 a_29 a_30 a_31 a_32 a_33 a_34 a_35 ) (cwV 1 hts (mm_gV mm_w626 mm_w627 mm_w628 mm_w2 mm_w629) rfl rfl rfl hd_X11_isLand ⟨by rw [hRf]; exact Nat.le_of_ble_eq_true rfl, by rw [hRl]; exact Nat.le_of_ble_eq_true rfl⟩) (mm_preV hK hP hD [0, 1, 2] rfl rfl 0 rfl rfl rfl) rfl rfl hl.1 rfl (lv_room (Nat.le_of_ble_eq_true rfl)) dX11_mute_2 ⟨by rw [hRc]; exact Nat.le_of_ble_eq_true rfl, by rw [hRs]; exact Nat.le_of_ble_eq_true rfl⟩) hP hD hS hA [0, 1, 2] rfl (fun _ => rfl) ?_
  clear hP hD hS
  clear H locs
  intro v1 _u H locs hw hP hD hS
  subst hw
  refine lv_if_ne (tgt := 11) hx hb dX11_mute_5 (by decide) (fun c2 => ?_) (fun c2 => ?_)
  · have q3 := mm_neL (lo := 1) (mm_ne c2) mm_k0 mm_k0 (by decide) (by decide)
    exact mm_no q3 (by decide)
  · refine lv_bipush (v := (-2)) hx hb dX11_mute_8 (by decide) ?_
    subst hAe
    rw [hQ]
    exact W.iret (v := (-2)) hx hb hr (fun t ht hW => ⟨⟨(-2), (), rfl, rfl, by rw [ht]; exact hP, hK.warm hW, hD⟩, hS.F ht⟩) hS.2.2 dX11_mute_10

set_option maxHeartbeats 4000000 in
set_option maxRecDepth 100000 in
theorem K143_X12_mute (l : Launch) (G : va_G) (cy : Nat → ClassId) (sz : Nat) (a_0 : Nat) (i_0 : Int32) (a_1 : Nat) (a_2 : Nat) (a_3 : Nat) (a_4 : Nat) (a_5 : Nat) (k_0 : Int32) (k_1 : Int32) (k_2 : Int32) (k_3 : Int32) (k_4 : Int32) (k_5 : Int64) (k_6 : Int32) (k_7 : Int32) (k_8 : Int32) (k_9 : Int32) (a_6 : Nat) (a_7 : Nat) (a_8 : Nat) (a_9 : Nat) (a_10 : Nat) (a_11 : Nat) (a_12 : Nat) (a_13 : Nat) (a_14 : Nat) (a_15 : Nat) (a_16 : Nat) (a_17 : Nat) (a_18 : Nat) (k_10 : Int32) (k_11 : Int32) (k_12 : Int32) (k_13 : Int32) (k_14 : Int32) (k_15 : Int32) (a_19 : Nat) (k_16 : Int32) (a_20 : Nat)   : mm_CI l yX12_mute (mm_ws yX12_mute cX12_mute 2 (some .int)) ({ frames := 2, cells := 0, slots := 0, locals := 46 } : Room) G cy sz [(a_0, .inr (12, [.int 0, .ref a_1, .ref a_2, .ref a_3, .ref a_4, .ref a_5, .int k_0, .int k_1, .int k_2, .int k_3, .int k_4, .long k_5, .int k_6, .int k_7, .int k_8, .int k_9, .ref a_6, .ref a_7, .ref a_8, .ref a_9, .ref a_10, .ref a_11, .ref a_12, .ref a_13, .ref a_14, .ref a_15, .ref a_16, .ref a_17, .ref a_18, .int k_10, .int k_11, .int k_12, .int k_13, .int k_14, .int k_15, .ref a_19, .int k_16, .ref a_20])), (a_7, .inl (cy 1, 30, .inl (fun _ => 0)))] [.ref a_0, .int i_0] (fun u : Unit => [(a_0, .inr (12, [.int 0, .ref a_1, .ref a_2, .ref a_3, .ref a_4, .ref a_5, .int k_0, .int k_1, .int k_2, .int k_3, .int k_4, .long k_5, .int k_6, .int k_7, .int k_8, .int k_9, .ref a_6, .ref a_7, .ref a_8, .ref a_9, .ref a_10, .ref a_11, .ref a_12, .ref a_13, .ref a_14, .ref a_15, .ref a_16, .ref a_17, .ref a_18, .int k_10, .int k_11, .int k_12, .int k_13, .int k_14, .int k_15, .ref a_19, .int k_16, .ref a_20])), (a_7, .inl (cy 1, 30, .inl (fun _ => 0)))]) (fun (r : Int32) (u : Unit) => (-2) = r) 0 0 := by
  refine mm_begin (lv := [(0, .ref a_0), (1, .int i_0)]) (by decide) (Nat.le_of_ble_eq_true rfl) rfl ?_
  intro p e s m below meth c A ls R args Q H locs hRe hQ hAe hx hb hr hlocks hml hown hnm hts hsz hA hS hP hK hD hl
  have hRf : R.frames = 2 := by rw [hRe]
  have hRl : R.locals = 46 := by rw [hRe]
  have hRc : R.cells = 0 := by rw [hRe]
  have hRs : R.slots = 0 := by rw [hRe]
  refine lv_aload_n hx hb dX12_mute_0 rfl (lv_at hl 0 rfl) ?_
  refine lv_iconst (v := 0) hx hb dX12_mute_1 (by decide) ?_
  refine va_put (D := G) (ci := 12) (v := .int 0) (ty := tyX12 0) (C := RX12) (T := TX12) (N := 38) hx hb hts (mm_i inlX12) tyX12 tyX12_ok nmX12 hown hK.1 hP hD hS 0 rfl rfl 0 (by decide) (mm_h hts mm_w177) (fun _ h9 => h9) rfl (tyX12_ok 0 (by decide)) rfl rfl (Nat.le_of_ble_eq_true rfl) dX12_mute_2 ?_
  clear hP hD hS
  clear H locs
  intro H locs (hP : va_P G vwCl [(a_0, .inr (12, [.int 0, .ref a_1, .ref a_2, .ref a_3, .ref a_4, .ref a_5, .int k_0, .int k_1, .int k_2, .int k_3, .int k_4, .long k_5, .int k_6, .int k_7, .int k_8, .int k_9, .ref a_6, .ref a_7, .ref a_8, .ref a_9, .ref a_10, .ref a_11, .ref a_12, .ref a_13, .ref a_14, .ref a_15, .ref a_16, .ref a_17, .ref a_18, .int k_10, .int k_11, .int k_12, .int k_13, .int k_14, .int k_15, .ref a_19, .int k_16, .ref a_20])), (a_7, .inl (cy 1, 30, .inl (fun _ => 0)))] H) (hD : va_D A [(a_0, .inr (12, [.int 0, .ref a_1, .ref a_2, .ref a_3, .ref a_4, .ref a_5, .int k_0, .int k_1, .int k_2, .int k_3, .int k_4, .long k_5, .int k_6, .int k_7, .int k_8, .int k_9, .ref a_6, .ref a_7, .ref a_8, .ref a_9, .ref a_10, .ref a_11, .ref a_12, .ref a_13, .ref a_14, .ref a_15, .ref a_16, .ref a_17, .ref a_18, .int k_10, .int k_11, .int k_12, .int k_13, .int k_14, .int k_15, .ref a_19, .int k_16, .ref a_20])), (a_7, .inl (cy 1, 30, .inl (fun _ => 0)))]) hS
  refine lv_aload_n hx hb dX12_mute_5 rfl (lv_at hl 0 rfl) ?_
  refine lv_iload_n hx hb dX12_mute_6 rfl (lv_at hl 1 rfl) ?_
  refine mm_finir (va_runV (As := [.int i_0]) (rest := []) ⟨hx, hb, hml, hown, hts⟩ (K126_X12_isLand l G cy H.size a_0 i_0 0 a_1 a_2 a_3 a_4 a_5 k_0 k_1 k_2 k_3 k_4 k_5 k_6 k_7 k_8 k_9 a_6 a_7 a_8 a_9 a_10 a_11 a_12 a_13 a_14 a_15 a_16 a_17 a_18 k_10 k_11 k_12 k_13 k_14 k_15 a_19 k_16 a_20 ) (cwV 1 hts (mm_gV mm_w641 mm_w642 mm_w643 mm_w5 mm_w644) rfl rfl rfl hd_X12_isLand ⟨by rw [hRf]; exact Nat.le_of_ble_eq_true rfl, by rw [hRl]; exact Nat.le_of_ble_eq_true rfl⟩) (mm_preV hK hP hD [0, 1] rfl rfl 0 rfl rfl rfl) rfl rfl hl.1 rfl (lv_room (Nat.le_of_ble_eq_true rfl)) dX12_mute_7 ⟨by rw [hRc]; exact Nat.le_of_ble_eq_true rfl, by rw [hRs]; exact Nat.le_of_ble_eq_true rfl⟩) hP hD hS hA [0, 1] rfl (fun _ => rfl) ?_
  clear hP hD hS
  clear H locs
  intro v1 _u H locs hw hP hD hS
  subst hw
  refine lv_if_ne (tgt := 16) hx hb dX12_mute_10 (by decide) (fun c2 => ?_) (fun c2 => ?_)
  · have q3 := mm_neL (lo := 1) (mm_ne c2) mm_k0 mm_k0 (by decide) (by decide)
    exact mm_no q3 (by decide)
  · refine lv_bipush (v := (-2)) hx hb dX12_mute_13 (by decide) ?_
    subst hAe
    rw [hQ]
    exact W.iret (v := (-2)) hx hb hr (fun t ht hW => ⟨⟨(-2), (), rfl, rfl, by rw [ht]; exact hP, hK.warm hW, hD⟩, hS.F ht⟩) hS.2.2 dX12_mute_15

set_option maxHeartbeats 4000000 in
set_option maxRecDepth 100000 in
theorem K144_X11_muted (l : Launch) (G : va_G) (cy : Nat → ClassId) (sz : Nat) (a_0 : Nat) (i_0 : Int32) (a_1 : Nat) (a_2 : Nat) (a_3 : Nat) (a_4 : Nat) (a_5 : Nat) (a_6 : Nat) (a_7 : Nat) (a_8 : Nat) (a_9 : Nat) (a_10 : Nat) (a_11 : Nat) (a_24 : Nat) (a_25 : Nat) (k_0 : Int32) (k_1 : Int32) (k_2 : Int32) (k_3 : Int32) (k_4 : Int32) (k_5 : Int32) (k_6 : Int32) (a_26 : Nat) (a_27 : Nat) (a_28 : Nat) (a_29 : Nat) (a_30 : Nat) (a_31 : Nat) (a_32 : Nat) (a_33 : Nat) (a_34 : Nat) (a_35 : Nat)   : mm_CI l yX11_muted (mm_ws yX11_muted cX11_muted 2 (some .int)) ({ frames := 1, cells := 0, slots := 0, locals := 21 } : Room) G cy sz [(a_0, .inr (11, [.ref a_1, .ref a_2, .ref a_3, .ref a_4, .ref a_5, .ref a_6, .ref a_7, .ref a_8, .ref a_9, .ref a_10, .ref a_11])), (a_3, .inr (10, [.ref a_24, .ref a_25])), (a_24, .inr (0, [.int k_0, .int k_1, .int k_2, .int k_3, .int k_4, .int 0, .int k_5, .int k_6, .ref a_26, .ref a_27, .ref a_28, .ref a_29, .ref a_30, .ref a_31, .ref a_32, .ref a_33, .ref a_34, .ref a_35]))] [.ref a_0, .int i_0] (fun u : Unit => [(a_0, .inr (11, [.ref a_1, .ref a_2, .ref a_3, .ref a_4, .ref a_5, .ref a_6, .ref a_7, .ref a_8, .ref a_9, .ref a_10, .ref a_11])), (a_3, .inr (10, [.ref a_24, .ref a_25])), (a_24, .inr (0, [.int k_0, .int k_1, .int k_2, .int k_3, .int k_4, .int 0, .int k_5, .int k_6, .ref a_26, .ref a_27, .ref a_28, .ref a_29, .ref a_30, .ref a_31, .ref a_32, .ref a_33, .ref a_34, .ref a_35]))]) (fun (r : Int32) (u : Unit) => (-2) = r) 0 0 := by
  refine mm_begin (lv := [(0, .ref a_0), (1, .int i_0)]) (by decide) (Nat.le_of_ble_eq_true rfl) rfl ?_
  intro p e s m below meth c A ls R args Q H locs hRe hQ hAe hx hb hr hlocks hml hown hnm hts hsz hA hS hP hK hD hl
  have hRf : R.frames = 1 := by rw [hRe]
  have hRl : R.locals = 21 := by rw [hRe]
  have hRc : R.cells = 0 := by rw [hRe]
  have hRs : R.slots = 0 := by rw [hRe]
  refine lv_aload_n hx hb dX11_muted_0 rfl (lv_at hl 0 rfl) ?_
  refine lv_iload_n hx hb dX11_muted_1 rfl (lv_at hl 1 rfl) ?_
  refine mm_finir (va_runV (As := [.int i_0]) (rest := []) ⟨hx, hb, hml, hown, hts⟩ (K123_X11_isLand l G cy H.size a_0 i_0 a_1 a_2 a_3 a_4 a_5 a_6 a_7 a_8 a_9 a_10 a_11 a_24 a_25 k_0 k_1 k_2 k_3 k_4 k_5 k_6 a_26 a_27 a_28 a_29 a_30 a_31 a_32 a_33 a_34 a_35 ) (cwV 1 hts (mm_gV mm_w626 mm_w627 mm_w628 mm_w2 mm_w629) rfl rfl rfl hd_X11_isLand ⟨by rw [hRf]; exact Nat.le_of_ble_eq_true rfl, by rw [hRl]; exact Nat.le_of_ble_eq_true rfl⟩) (mm_preV hK hP hD [0, 1, 2] rfl rfl 0 rfl rfl rfl) rfl rfl hl.1 rfl (lv_room (Nat.le_of_ble_eq_true rfl)) dX11_muted_2 ⟨by rw [hRc]; exact Nat.le_of_ble_eq_true rfl, by rw [hRs]; exact Nat.le_of_ble_eq_true rfl⟩) hP hD hS hA [0, 1, 2] rfl (fun _ => rfl) ?_
  clear hP hD hS
  clear H locs
  intro v1 _u H locs hw hP hD hS
  subst hw
  refine lv_if_eq (tgt := 16) hx hb dX11_muted_5 (by decide) (fun c2 => ?_) (fun c2 => ?_)
  · refine lv_bipush (v := (-2)) hx hb dX11_muted_16 (by decide) ?_
    subst hAe
    rw [hQ]
    exact W.iret (v := (-2)) hx hb hr (fun t ht hW => ⟨⟨(-2), (), rfl, rfl, by rw [ht]; exact hP, hK.warm hW, hD⟩, hS.F ht⟩) hS.2.2 dX11_muted_18
  · have q3 := mm_neL (lo := 1) (mm_ne c2) mm_k0 mm_k0 (by decide) (by decide)
    exact mm_no q3 (by decide)

set_option maxHeartbeats 4000000 in
set_option maxRecDepth 100000 in
theorem K145_X12_muted (l : Launch) (G : va_G) (cy : Nat → ClassId) (sz : Nat) (a_0 : Nat) (i_0 : Int32) (a_1 : Nat) (a_2 : Nat) (a_3 : Nat) (a_4 : Nat) (a_5 : Nat) (k_0 : Int32) (k_1 : Int32) (k_2 : Int32) (k_3 : Int32) (k_4 : Int32) (k_5 : Int64) (k_6 : Int32) (k_7 : Int32) (k_8 : Int32) (k_9 : Int32) (a_6 : Nat) (a_7 : Nat) (a_8 : Nat) (a_9 : Nat) (a_10 : Nat) (a_11 : Nat) (a_12 : Nat) (a_13 : Nat) (a_14 : Nat) (a_15 : Nat) (a_16 : Nat) (a_17 : Nat) (a_18 : Nat) (k_10 : Int32) (k_11 : Int32) (k_12 : Int32) (k_13 : Int32) (k_14 : Int32) (k_15 : Int32) (a_19 : Nat) (k_16 : Int32) (a_20 : Nat)   : mm_CI l yX12_muted (mm_ws yX12_muted cX12_muted 2 (some .int)) ({ frames := 2, cells := 0, slots := 0, locals := 46 } : Room) G cy sz [(a_0, .inr (12, [.int 0, .ref a_1, .ref a_2, .ref a_3, .ref a_4, .ref a_5, .int k_0, .int k_1, .int k_2, .int k_3, .int k_4, .long k_5, .int k_6, .int k_7, .int k_8, .int k_9, .ref a_6, .ref a_7, .ref a_8, .ref a_9, .ref a_10, .ref a_11, .ref a_12, .ref a_13, .ref a_14, .ref a_15, .ref a_16, .ref a_17, .ref a_18, .int k_10, .int k_11, .int k_12, .int k_13, .int k_14, .int k_15, .ref a_19, .int k_16, .ref a_20])), (a_7, .inl (cy 1, 30, .inl (fun _ => 0)))] [.ref a_0, .int i_0] (fun u : Unit => [(a_0, .inr (12, [.int 0, .ref a_1, .ref a_2, .ref a_3, .ref a_4, .ref a_5, .int k_0, .int k_1, .int k_2, .int k_3, .int k_4, .long k_5, .int k_6, .int k_7, .int k_8, .int k_9, .ref a_6, .ref a_7, .ref a_8, .ref a_9, .ref a_10, .ref a_11, .ref a_12, .ref a_13, .ref a_14, .ref a_15, .ref a_16, .ref a_17, .ref a_18, .int k_10, .int k_11, .int k_12, .int k_13, .int k_14, .int k_15, .ref a_19, .int k_16, .ref a_20])), (a_7, .inl (cy 1, 30, .inl (fun _ => 0)))]) (fun (r : Int32) (u : Unit) => (-2) = r) 0 0 := by
  refine mm_begin (lv := [(0, .ref a_0), (1, .int i_0)]) (by decide) (Nat.le_of_ble_eq_true rfl) rfl ?_
  intro p e s m below meth c A ls R args Q H locs hRe hQ hAe hx hb hr hlocks hml hown hnm hts hsz hA hS hP hK hD hl
  have hRf : R.frames = 2 := by rw [hRe]
  have hRl : R.locals = 46 := by rw [hRe]
  have hRc : R.cells = 0 := by rw [hRe]
  have hRs : R.slots = 0 := by rw [hRe]
  refine lv_aload_n hx hb dX12_muted_0 rfl (lv_at hl 0 rfl) ?_
  refine lv_iconst (v := 0) hx hb dX12_muted_1 (by decide) ?_
  refine va_put (D := G) (ci := 12) (v := .int 0) (ty := tyX12 0) (C := RX12) (T := TX12) (N := 38) hx hb hts (mm_i inlX12) tyX12 tyX12_ok nmX12 hown hK.1 hP hD hS 0 rfl rfl 0 (by decide) (mm_h hts mm_w177) (fun _ h9 => h9) rfl (tyX12_ok 0 (by decide)) rfl rfl (Nat.le_of_ble_eq_true rfl) dX12_muted_2 ?_
  clear hP hD hS
  clear H locs
  intro H locs (hP : va_P G vwCl [(a_0, .inr (12, [.int 0, .ref a_1, .ref a_2, .ref a_3, .ref a_4, .ref a_5, .int k_0, .int k_1, .int k_2, .int k_3, .int k_4, .long k_5, .int k_6, .int k_7, .int k_8, .int k_9, .ref a_6, .ref a_7, .ref a_8, .ref a_9, .ref a_10, .ref a_11, .ref a_12, .ref a_13, .ref a_14, .ref a_15, .ref a_16, .ref a_17, .ref a_18, .int k_10, .int k_11, .int k_12, .int k_13, .int k_14, .int k_15, .ref a_19, .int k_16, .ref a_20])), (a_7, .inl (cy 1, 30, .inl (fun _ => 0)))] H) (hD : va_D A [(a_0, .inr (12, [.int 0, .ref a_1, .ref a_2, .ref a_3, .ref a_4, .ref a_5, .int k_0, .int k_1, .int k_2, .int k_3, .int k_4, .long k_5, .int k_6, .int k_7, .int k_8, .int k_9, .ref a_6, .ref a_7, .ref a_8, .ref a_9, .ref a_10, .ref a_11, .ref a_12, .ref a_13, .ref a_14, .ref a_15, .ref a_16, .ref a_17, .ref a_18, .int k_10, .int k_11, .int k_12, .int k_13, .int k_14, .int k_15, .ref a_19, .int k_16, .ref a_20])), (a_7, .inl (cy 1, 30, .inl (fun _ => 0)))]) hS
  refine lv_aload_n hx hb dX12_muted_5 rfl (lv_at hl 0 rfl) ?_
  refine lv_iload_n hx hb dX12_muted_6 rfl (lv_at hl 1 rfl) ?_
  refine mm_finir (va_runV (As := [.int i_0]) (rest := []) ⟨hx, hb, hml, hown, hts⟩ (K126_X12_isLand l G cy H.size a_0 i_0 0 a_1 a_2 a_3 a_4 a_5 k_0 k_1 k_2 k_3 k_4 k_5 k_6 k_7 k_8 k_9 a_6 a_7 a_8 a_9 a_10 a_11 a_12 a_13 a_14 a_15 a_16 a_17 a_18 k_10 k_11 k_12 k_13 k_14 k_15 a_19 k_16 a_20 ) (cwV 1 hts (mm_gV mm_w641 mm_w642 mm_w643 mm_w5 mm_w644) rfl rfl rfl hd_X12_isLand ⟨by rw [hRf]; exact Nat.le_of_ble_eq_true rfl, by rw [hRl]; exact Nat.le_of_ble_eq_true rfl⟩) (mm_preV hK hP hD [0, 1] rfl rfl 0 rfl rfl rfl) rfl rfl hl.1 rfl (lv_room (Nat.le_of_ble_eq_true rfl)) dX12_muted_7 ⟨by rw [hRc]; exact Nat.le_of_ble_eq_true rfl, by rw [hRs]; exact Nat.le_of_ble_eq_true rfl⟩) hP hD hS hA [0, 1] rfl (fun _ => rfl) ?_
  clear hP hD hS
  clear H locs
  intro v1 _u H locs hw hP hD hS
  subst hw
  refine lv_if_ne (tgt := 16) hx hb dX12_muted_10 (by decide) (fun c2 => ?_) (fun c2 => ?_)
  · have q3 := mm_neL (lo := 1) (mm_ne c2) mm_k0 mm_k0 (by decide) (by decide)
    exact mm_no q3 (by decide)
  · refine lv_bipush (v := (-2)) hx hb dX12_muted_13 (by decide) ?_
    subst hAe
    rw [hQ]
    exact W.iret (v := (-2)) hx hb hr (fun t ht hW => ⟨⟨(-2), (), rfl, rfl, by rw [ht]; exact hP, hK.warm hW, hD⟩, hS.F ht⟩) hS.2.2 dX12_muted_15

set_option maxHeartbeats 4000000 in
set_option maxRecDepth 100000 in
theorem K146_X11_stays (l : Launch) (G : va_G) (cy : Nat → ClassId) (sz : Nat) (a_0 : Nat) (i_0 : Int32) (i_1 : Int32) (a_1 : Nat) (a_2 : Nat) (a_3 : Nat) (a_4 : Nat) (a_5 : Nat) (a_6 : Nat) (a_7 : Nat) (a_8 : Nat) (a_9 : Nat) (a_10 : Nat) (a_11 : Nat) (a_24 : Nat) (a_25 : Nat) (k_0 : Int32) (k_1 : Int32) (k_2 : Int32) (k_3 : Int32) (k_4 : Int32) (k_5 : Int32) (k_6 : Int32) (a_26 : Nat) (a_27 : Nat) (a_28 : Nat) (a_29 : Nat) (a_30 : Nat) (a_31 : Nat) (a_32 : Nat) (a_33 : Nat) (a_34 : Nat) (a_35 : Nat)   : mm_CI l yX11_stays (mm_ws yX11_stays cX11_stays 3 (some .int)) ({ frames := 1, cells := 0, slots := 0, locals := 21 } : Room) G cy sz [(a_0, .inr (11, [.ref a_1, .ref a_2, .ref a_3, .ref a_4, .ref a_5, .ref a_6, .ref a_7, .ref a_8, .ref a_9, .ref a_10, .ref a_11])), (a_3, .inr (10, [.ref a_24, .ref a_25])), (a_24, .inr (0, [.int k_0, .int k_1, .int k_2, .int k_3, .int k_4, .int 0, .int k_5, .int k_6, .ref a_26, .ref a_27, .ref a_28, .ref a_29, .ref a_30, .ref a_31, .ref a_32, .ref a_33, .ref a_34, .ref a_35]))] [.ref a_0, .int i_0, .int i_1] (fun u : Unit => [(a_0, .inr (11, [.ref a_1, .ref a_2, .ref a_3, .ref a_4, .ref a_5, .ref a_6, .ref a_7, .ref a_8, .ref a_9, .ref a_10, .ref a_11])), (a_3, .inr (10, [.ref a_24, .ref a_25])), (a_24, .inr (0, [.int k_0, .int k_1, .int k_2, .int k_3, .int k_4, .int 0, .int k_5, .int k_6, .ref a_26, .ref a_27, .ref a_28, .ref a_29, .ref a_30, .ref a_31, .ref a_32, .ref a_33, .ref a_34, .ref a_35]))]) (fun (r : Int32) (u : Unit) => (-2) = r) 0 0 := by
  refine mm_begin (lv := [(0, .ref a_0), (1, .int i_0), (2, .int i_1)]) (by decide) (Nat.le_of_ble_eq_true rfl) rfl ?_
  intro p e s m below meth c A ls R args Q H locs hRe hQ hAe hx hb hr hlocks hml hown hnm hts hsz hA hS hP hK hD hl
  have hRf : R.frames = 1 := by rw [hRe]
  have hRl : R.locals = 21 := by rw [hRe]
  have hRc : R.cells = 0 := by rw [hRe]
  have hRs : R.slots = 0 := by rw [hRe]
  refine lv_aload_n hx hb dX11_stays_0 rfl (lv_at hl 0 rfl) ?_
  refine lv_iload_n hx hb dX11_stays_1 rfl (lv_at hl 1 rfl) ?_
  refine mm_finir (va_runV (As := [.int i_0]) (rest := []) ⟨hx, hb, hml, hown, hts⟩ (K123_X11_isLand l G cy H.size a_0 i_0 a_1 a_2 a_3 a_4 a_5 a_6 a_7 a_8 a_9 a_10 a_11 a_24 a_25 k_0 k_1 k_2 k_3 k_4 k_5 k_6 a_26 a_27 a_28 a_29 a_30 a_31 a_32 a_33 a_34 a_35 ) (cwV 1 hts (mm_gV mm_w626 mm_w627 mm_w628 mm_w2 mm_w629) rfl rfl rfl hd_X11_isLand ⟨by rw [hRf]; exact Nat.le_of_ble_eq_true rfl, by rw [hRl]; exact Nat.le_of_ble_eq_true rfl⟩) (mm_preV hK hP hD [0, 1, 2] rfl rfl 0 rfl rfl rfl) rfl rfl hl.1 rfl (lv_room (Nat.le_of_ble_eq_true rfl)) dX11_stays_2 ⟨by rw [hRc]; exact Nat.le_of_ble_eq_true rfl, by rw [hRs]; exact Nat.le_of_ble_eq_true rfl⟩) hP hD hS hA [0, 1, 2] rfl (fun _ => rfl) ?_
  clear hP hD hS
  clear H locs
  intro v1 _u H locs hw hP hD hS
  subst hw
  refine lv_if_eq (tgt := 15) hx hb dX11_stays_5 (by decide) (fun c2 => ?_) (fun c2 => ?_)
  · refine lv_bipush (v := (-2)) hx hb dX11_stays_15 (by decide) ?_
    subst hAe
    rw [hQ]
    exact W.iret (v := (-2)) hx hb hr (fun t ht hW => ⟨⟨(-2), (), rfl, rfl, by rw [ht]; exact hP, hK.warm hW, hD⟩, hS.F ht⟩) hS.2.2 dX11_stays_17
  · have q3 := mm_neL (lo := 1) (mm_ne c2) mm_k0 mm_k0 (by decide) (by decide)
    exact mm_no q3 (by decide)

