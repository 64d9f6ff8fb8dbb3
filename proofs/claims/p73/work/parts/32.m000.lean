theorem dX12_begins_0 : decode cX12_begins 0 = .ok (.aload_n 0, 1) := by decide +kernel
theorem dX12_begins_1 : decode cX12_begins 1 = .ok (.iconst 0, 1) := by decide +kernel
theorem dX12_begins_2 : decode cX12_begins 2 = .ok (.putfield 129, 3) := by decide +kernel
theorem dX12_begins_5 : decode cX12_begins 5 = .ok (.aload_n 0, 1) := by decide +kernel
theorem dX12_begins_6 : decode cX12_begins 6 = .ok (.iconst (-1), 1) := by decide +kernel
theorem dX12_begins_7 : decode cX12_begins 7 = .ok (.putfield 132, 3) := by decide +kernel
theorem dX12_begins_10 : decode cX12_begins 10 = .ok (.aload_n 0, 1) := by decide +kernel
theorem dX12_begins_11 : decode cX12_begins 11 = .ok (.iconst 0, 1) := by decide +kernel
theorem dX12_begins_12 : decode cX12_begins 12 = .ok (.putfield 101, 3) := by decide +kernel
theorem dX12_begins_15 : decode cX12_begins 15 = .ok (.aload_n 0, 1) := by decide +kernel
theorem dX12_begins_16 : decode cX12_begins 16 = .ok (.invokevirtual 139, 3) := by decide +kernel
theorem dX12_begins_19 : decode cX12_begins 19 = .ok (.return_, 1) := by decide +kernel
theorem dX12_clears_0 : decode cX12_clears 0 = .ok (.aload_n 0, 1) := by decide +kernel
theorem dX12_clears_1 : decode cX12_clears 1 = .ok (.getfield 31, 3) := by decide +kernel
theorem dX12_clears_4 : decode cX12_clears 4 = .ok (.iconst 4, 1) := by decide +kernel
theorem dX12_clears_5 : decode cX12_clears 5 = .ok (.iconst 0, 1) := by decide +kernel
theorem dX12_clears_6 : decode cX12_clears 6 = .ok (.iastore, 1) := by decide +kernel
theorem dX12_clears_7 : decode cX12_clears 7 = .ok (.iconst 0, 1) := by decide +kernel
theorem dX12_clears_8 : decode cX12_clears 8 = .ok (.istore_n 1, 1) := by decide +kernel
theorem dX12_clears_9 : decode cX12_clears 9 = .ok (.iload_n 1, 1) := by decide +kernel
theorem dX12_clears_10 : decode cX12_clears 10 = .ok (.bipush 6, 2) := by decide +kernel
theorem dX12_clears_12 : decode cX12_clears 12 = .ok (.if_icmp .ge 15, 3) := by decide +kernel
theorem dX12_clears_15 : decode cX12_clears 15 = .ok (.aload_n 0, 1) := by decide +kernel
theorem dX12_clears_16 : decode cX12_clears 16 = .ok (.iload_n 1, 1) := by decide +kernel
theorem dX12_clears_17 : decode cX12_clears 17 = .ok (.iconst 0, 1) := by decide +kernel
theorem dX12_clears_18 : decode cX12_clears 18 = .ok (.invokevirtual 173, 3) := by decide +kernel
theorem dX12_clears_21 : decode cX12_clears 21 = .ok (.iinc 1 1, 3) := by decide +kernel
theorem dX12_clears_24 : decode cX12_clears 24 = .ok (.goto (-15), 3) := by decide +kernel
theorem dX12_clears_27 : decode cX12_clears 27 = .ok (.iconst 0, 1) := by decide +kernel
theorem dX12_clears_28 : decode cX12_clears 28 = .ok (.istore_n 1, 1) := by decide +kernel
theorem dX12_clears_29 : decode cX12_clears 29 = .ok (.iload_n 1, 1) := by decide +kernel
theorem dX12_clears_30 : decode cX12_clears 30 = .ok (.iconst 3, 1) := by decide +kernel
theorem dX12_clears_31 : decode cX12_clears 31 = .ok (.if_icmp .ge 19, 3) := by decide +kernel
theorem dX12_clears_34 : decode cX12_clears 34 = .ok (.aload_n 0, 1) := by decide +kernel
theorem dX12_clears_35 : decode cX12_clears 35 = .ok (.getfield 40, 3) := by decide +kernel
theorem dX12_clears_38 : decode cX12_clears 38 = .ok (.bipush 12, 2) := by decide +kernel
theorem dX12_clears_40 : decode cX12_clears 40 = .ok (.iload_n 1, 1) := by decide +kernel
theorem dX12_clears_41 : decode cX12_clears 41 = .ok (.iadd, 1) := by decide +kernel
theorem dX12_clears_42 : decode cX12_clears 42 = .ok (.iconst 0, 1) := by decide +kernel
theorem dX12_clears_43 : decode cX12_clears 43 = .ok (.iastore, 1) := by decide +kernel
theorem dX12_clears_44 : decode cX12_clears 44 = .ok (.iinc 1 1, 3) := by decide +kernel
theorem dX12_clears_47 : decode cX12_clears 47 = .ok (.goto (-18), 3) := by decide +kernel
theorem dX12_clears_50 : decode cX12_clears 50 = .ok (.return_, 1) := by decide +kernel
theorem dX12_end_0 : decode cX12_end 0 = .ok (.aload_n 0, 1) := by decide +kernel
theorem dX12_end_1 : decode cX12_end 1 = .ok (.iconst 0, 1) := by decide +kernel
theorem dX12_end_2 : decode cX12_end 2 = .ok (.putfield 77, 3) := by decide +kernel
theorem dX12_end_5 : decode cX12_end 5 = .ok (.iload_n 1, 1) := by decide +kernel
theorem dX12_end_6 : decode cX12_end 6 = .ok (.i2l, 1) := by decide +kernel
theorem dX12_end_7 : decode cX12_end 7 = .ok (.lconst 0, 1) := by decide +kernel
theorem dX12_end_8 : decode cX12_end 8 = .ok (.aload_n 0, 1) := by decide +kernel
theorem dX12_end_9 : decode cX12_end 9 = .ok (.getfield 94, 3) := by decide +kernel
theorem dX12_end_12 : decode cX12_end 12 = .ok (.i2l, 1) := by decide +kernel
theorem dX12_end_13 : decode cX12_end 13 = .ok (.invokestatic 82, 3) := by decide +kernel
theorem dX12_end_16 : decode cX12_end 16 = .ok (.ifCond .ne 5, 3) := by decide +kernel
theorem dX12_end_19 : decode cX12_end 19 = .ok (.iconst (-1), 1) := by decide +kernel
theorem dX12_end_20 : decode cX12_end 20 = .ok (.ireturn, 1) := by decide +kernel
theorem dX12_end_21 : decode cX12_end 21 = .ok (.aload_n 0, 1) := by decide +kernel
theorem dX12_end_22 : decode cX12_end 22 = .ok (.iload_n 1, 1) := by decide +kernel
theorem dX12_end_23 : decode cX12_end 23 = .ok (.putfield 94, 3) := by decide +kernel
theorem dX12_end_26 : decode cX12_end 26 = .ok (.iload_n 1, 1) := by decide +kernel
theorem dX12_end_27 : decode cX12_end 27 = .ok (.ireturn, 1) := by decide +kernel
theorem dX12_feed_0 : decode cX12_feed 0 = .ok (.aload_n 0, 1) := by decide +kernel
theorem dX12_feed_1 : decode cX12_feed 1 = .ok (.iconst 0, 1) := by decide +kernel
theorem dX12_feed_2 : decode cX12_feed 2 = .ok (.putfield 77, 3) := by decide +kernel
theorem dX12_feed_5 : decode cX12_feed 5 = .ok (.aload_n 0, 1) := by decide +kernel
theorem dX12_feed_6 : decode cX12_feed 6 = .ok (.getfield 94, 3) := by decide +kernel
theorem dX12_feed_9 : decode cX12_feed 9 = .ok (.bipush 20, 2) := by decide +kernel
theorem dX12_feed_11 : decode cX12_feed 11 = .ok (.iadd, 1) := by decide +kernel
theorem dX12_feed_12 : decode cX12_feed 12 = .ok (.sipush 600, 3) := by decide +kernel
theorem dX12_feed_15 : decode cX12_feed 15 = .ok (.if_icmp .le 5, 3) := by decide +kernel
theorem dX12_feed_18 : decode cX12_feed 18 = .ok (.iconst (-1), 1) := by decide +kernel
theorem dX12_feed_19 : decode cX12_feed 19 = .ok (.ireturn, 1) := by decide +kernel
theorem dX12_feed_20 : decode cX12_feed 20 = .ok (.aload_n 0, 1) := by decide +kernel
theorem dX12_feed_21 : decode cX12_feed 21 = .ok (.iload_n 1, 1) := by decide +kernel
theorem dX12_feed_22 : decode cX12_feed 22 = .ok (.invokevirtual 97, 3) := by decide +kernel
theorem dX12_feed_25 : decode cX12_feed 25 = .ok (.aload_n 0, 1) := by decide +kernel
theorem dX12_feed_26 : decode cX12_feed 26 = .ok (.iload_n 2, 1) := by decide +kernel
theorem dX12_feed_27 : decode cX12_feed 27 = .ok (.invokevirtual 97, 3) := by decide +kernel
theorem dX12_feed_30 : decode cX12_feed 30 = .ok (.aload_n 0, 1) := by decide +kernel
theorem dX12_feed_31 : decode cX12_feed 31 = .ok (.iload_n 3, 1) := by decide +kernel
theorem dX12_feed_32 : decode cX12_feed 32 = .ok (.invokevirtual 97, 3) := by decide +kernel
theorem dX12_feed_35 : decode cX12_feed 35 = .ok (.aload_n 0, 1) := by decide +kernel
theorem dX12_feed_36 : decode cX12_feed 36 = .ok (.iload 4, 2) := by decide +kernel
theorem dX12_feed_38 : decode cX12_feed 38 = .ok (.invokevirtual 97, 3) := by decide +kernel
theorem dX12_feed_41 : decode cX12_feed 41 = .ok (.aload_n 0, 1) := by decide +kernel
theorem dX12_feed_42 : decode cX12_feed 42 = .ok (.iload 5, 2) := by decide +kernel
theorem dX12_feed_44 : decode cX12_feed 44 = .ok (.invokevirtual 97, 3) := by decide +kernel
theorem dX12_feed_47 : decode cX12_feed 47 = .ok (.aload_n 0, 1) := by decide +kernel
theorem dX12_feed_48 : decode cX12_feed 48 = .ok (.getfield 94, 3) := by decide +kernel
theorem dX12_feed_51 : decode cX12_feed 51 = .ok (.ireturn, 1) := by decide +kernel
theorem dX12_four_0 : decode cX12_four 0 = .ok (.bipush 24, 2) := by decide +kernel
theorem dX12_four_2 : decode cX12_four 2 = .ok (.istore_n 2, 1) := by decide +kernel
theorem dX12_four_3 : decode cX12_four 3 = .ok (.iload_n 2, 1) := by decide +kernel
theorem dX12_four_4 : decode cX12_four 4 = .ok (.ifCond .lt 32, 3) := by decide +kernel
theorem dX12_four_7 : decode cX12_four 7 = .ok (.aload_n 0, 1) := by decide +kernel
theorem dX12_four_8 : decode cX12_four 8 = .ok (.getfield 23, 3) := by decide +kernel
theorem dX12_four_11 : decode cX12_four 11 = .ok (.aload_n 0, 1) := by decide +kernel
theorem dX12_four_12 : decode cX12_four 12 = .ok (.getfield 94, 3) := by decide +kernel
theorem dX12_four_15 : decode cX12_four 15 = .ok (.iload_n 1, 1) := by decide +kernel
theorem dX12_four_16 : decode cX12_four 16 = .ok (.iload_n 2, 1) := by decide +kernel
theorem dX12_four_17 : decode cX12_four 17 = .ok (.ishr, 1) := by decide +kernel
theorem dX12_four_18 : decode cX12_four 18 = .ok (.i2b, 1) := by decide +kernel
theorem dX12_four_19 : decode cX12_four 19 = .ok (.bastore, 1) := by decide +kernel
theorem dX12_four_20 : decode cX12_four 20 = .ok (.aload_n 0, 1) := by decide +kernel
theorem dX12_four_21 : decode cX12_four 21 = .ok (.dup, 1) := by decide +kernel
theorem dX12_four_22 : decode cX12_four 22 = .ok (.getfield 94, 3) := by decide +kernel
theorem dX12_four_25 : decode cX12_four 25 = .ok (.iconst 1, 1) := by decide +kernel
theorem dX12_four_26 : decode cX12_four 26 = .ok (.iadd, 1) := by decide +kernel
theorem dX12_four_27 : decode cX12_four 27 = .ok (.putfield 94, 3) := by decide +kernel
theorem dX12_four_30 : decode cX12_four 30 = .ok (.iinc 2 (-8), 3) := by decide +kernel
theorem dX12_four_33 : decode cX12_four 33 = .ok (.goto (-30), 3) := by decide +kernel
theorem dX12_four_36 : decode cX12_four 36 = .ok (.return_, 1) := by decide +kernel
theorem dX12_in_0 : decode cX12_in 0 = .ok (.lload_n 0, 1) := by decide +kernel
theorem dX12_in_1 : decode cX12_in 1 = .ok (.lload_n 2, 1) := by decide +kernel
theorem dX12_in_2 : decode cX12_in 2 = .ok (.lcmp, 1) := by decide +kernel
theorem dX12_in_3 : decode cX12_in 3 = .ok (.ifCond .lt 14, 3) := by decide +kernel
theorem dX12_in_6 : decode cX12_in 6 = .ok (.lload_n 0, 1) := by decide +kernel
theorem dX12_in_7 : decode cX12_in 7 = .ok (.lload 4, 2) := by decide +kernel
theorem dX12_in_9 : decode cX12_in 9 = .ok (.lcmp, 1) := by decide +kernel
theorem dX12_in_10 : decode cX12_in 10 = .ok (.ifCond .gt 7, 3) := by decide +kernel
theorem dX12_in_13 : decode cX12_in 13 = .ok (.iconst 1, 1) := by decide +kernel
theorem dX12_in_14 : decode cX12_in 14 = .ok (.goto 4, 3) := by decide +kernel
theorem dX12_in_17 : decode cX12_in 17 = .ok (.iconst 0, 1) := by decide +kernel
theorem dX12_in_18 : decode cX12_in 18 = .ok (.ireturn, 1) := by decide +kernel
theorem dX12_is_0 : decode cX12_is 0 = .ok (.aload_n 0, 1) := by decide +kernel
theorem dX12_is_1 : decode cX12_is 1 = .ok (.getfield 129, 3) := by decide +kernel
theorem dX12_is_4 : decode cX12_is 4 = .ok (.ifCond .ne 24, 3) := by decide +kernel
theorem dX12_is_7 : decode cX12_is 7 = .ok (.aload_n 0, 1) := by decide +kernel
theorem dX12_is_8 : decode cX12_is 8 = .ok (.getfield 118, 3) := by decide +kernel
theorem dX12_is_11 : decode cX12_is 11 = .ok (.iconst 1, 1) := by decide +kernel
theorem dX12_is_12 : decode cX12_is 12 = .ok (.if_icmp .ne 16, 3) := by decide +kernel
theorem dX12_is_15 : decode cX12_is 15 = .ok (.aload_n 0, 1) := by decide +kernel
theorem dX12_is_16 : decode cX12_is 16 = .ok (.getfield 114, 3) := by decide +kernel
theorem dX12_is_19 : decode cX12_is 19 = .ok (.lload_n 1, 1) := by decide +kernel
theorem dX12_is_20 : decode cX12_is 20 = .ok (.lcmp, 1) := by decide +kernel
theorem dX12_is_21 : decode cX12_is 21 = .ok (.ifCond .ne 7, 3) := by decide +kernel
theorem dX12_is_24 : decode cX12_is 24 = .ok (.iconst 1, 1) := by decide +kernel
theorem dX12_is_25 : decode cX12_is 25 = .ok (.goto 4, 3) := by decide +kernel
theorem dX12_is_28 : decode cX12_is 28 = .ok (.iconst 0, 1) := by decide +kernel
theorem dX12_is_29 : decode cX12_is 29 = .ok (.ireturn, 1) := by decide +kernel
theorem dX12_isByte_0 : decode cX12_isByte 0 = .ok (.iload_n 1, 1) := by decide +kernel
theorem dX12_isByte_1 : decode cX12_isByte 1 = .ok (.aload_n 0, 1) := by decide +kernel
theorem dX12_isByte_2 : decode cX12_isByte 2 = .ok (.getfield 94, 3) := by decide +kernel
theorem dX12_isByte_5 : decode cX12_isByte 5 = .ok (.if_icmp .ge 27, 3) := by decide +kernel
theorem dX12_isByte_8 : decode cX12_isByte 8 = .ok (.aload_n 0, 1) := by decide +kernel
theorem dX12_isByte_9 : decode cX12_isByte 9 = .ok (.getfield 23, 3) := by decide +kernel
theorem dX12_isByte_12 : decode cX12_isByte 12 = .ok (.iload_n 1, 1) := by decide +kernel
theorem dX12_isByte_13 : decode cX12_isByte 13 = .ok (.baload, 1) := by decide +kernel
theorem dX12_isByte_14 : decode cX12_isByte 14 = .ok (.iload_n 2, 1) := by decide +kernel
theorem dX12_isByte_15 : decode cX12_isByte 15 = .ok (.if_icmp .lt 17, 3) := by decide +kernel
theorem dX12_isByte_18 : decode cX12_isByte 18 = .ok (.aload_n 0, 1) := by decide +kernel
theorem dX12_isByte_19 : decode cX12_isByte 19 = .ok (.getfield 23, 3) := by decide +kernel
theorem dX12_isByte_22 : decode cX12_isByte 22 = .ok (.iload_n 1, 1) := by decide +kernel
theorem dX12_isByte_23 : decode cX12_isByte 23 = .ok (.baload, 1) := by decide +kernel
theorem dX12_isByte_24 : decode cX12_isByte 24 = .ok (.iload_n 3, 1) := by decide +kernel
theorem dX12_isByte_25 : decode cX12_isByte 25 = .ok (.if_icmp .gt 7, 3) := by decide +kernel
theorem dX12_isByte_28 : decode cX12_isByte 28 = .ok (.iconst 1, 1) := by decide +kernel
theorem dX12_isByte_29 : decode cX12_isByte 29 = .ok (.goto 4, 3) := by decide +kernel
theorem dX12_isByte_32 : decode cX12_isByte 32 = .ok (.iconst 0, 1) := by decide +kernel
theorem dX12_isByte_33 : decode cX12_isByte 33 = .ok (.ireturn, 1) := by decide +kernel
theorem dX12_isGood_0 : decode cX12_isGood 0 = .ok (.aload_n 0, 1) := by decide +kernel
theorem dX12_isGood_1 : decode cX12_isGood 1 = .ok (.getfield 129, 3) := by decide +kernel
theorem dX12_isGood_4 : decode cX12_isGood 4 = .ok (.ifCond .ne 7, 3) := by decide +kernel
theorem dX12_isGood_7 : decode cX12_isGood 7 = .ok (.iconst 1, 1) := by decide +kernel
theorem dX12_isGood_8 : decode cX12_isGood 8 = .ok (.goto 4, 3) := by decide +kernel
theorem dX12_isGood_11 : decode cX12_isGood 11 = .ok (.iconst 0, 1) := by decide +kernel
theorem dX12_isGood_12 : decode cX12_isGood 12 = .ok (.ireturn, 1) := by decide +kernel
theorem dX12_next_0 : decode cX12_next 0 = .ok (.aload_n 0, 1) := by decide +kernel
theorem dX12_next_1 : decode cX12_next 1 = .ok (.aload_n 0, 1) := by decide +kernel
theorem dX12_next_2 : decode cX12_next 2 = .ok (.getfield 101, 3) := by decide +kernel
theorem dX12_next_5 : decode cX12_next 5 = .ok (.bipush 32, 2) := by decide +kernel
theorem dX12_next_7 : decode cX12_next 7 = .ok (.bipush 32, 2) := by decide +kernel
theorem dX12_next_9 : decode cX12_next 9 = .ok (.invokevirtual 104, 3) := by decide +kernel
theorem dX12_next_12 : decode cX12_next 12 = .ok (.ifCond .ne 18, 3) := by decide +kernel
theorem dX12_next_15 : decode cX12_next 15 = .ok (.aload_n 0, 1) := by decide +kernel
theorem dX12_next_16 : decode cX12_next 16 = .ok (.aload_n 0, 1) := by decide +kernel
theorem dX12_next_17 : decode cX12_next 17 = .ok (.getfield 101, 3) := by decide +kernel
theorem dX12_next_20 : decode cX12_next 20 = .ok (.bipush 10, 2) := by decide +kernel
theorem dX12_next_22 : decode cX12_next 22 = .ok (.bipush 10, 2) := by decide +kernel
theorem dX12_next_24 : decode cX12_next 24 = .ok (.invokevirtual 104, 3) := by decide +kernel
theorem dX12_next_27 : decode cX12_next 27 = .ok (.ifCond .eq 16, 3) := by decide +kernel
theorem dX12_next_30 : decode cX12_next 30 = .ok (.aload_n 0, 1) := by decide +kernel
theorem dX12_next_31 : decode cX12_next 31 = .ok (.dup, 1) := by decide +kernel
theorem dX12_next_32 : decode cX12_next 32 = .ok (.getfield 101, 3) := by decide +kernel
theorem dX12_next_35 : decode cX12_next 35 = .ok (.iconst 1, 1) := by decide +kernel
theorem dX12_next_36 : decode cX12_next 36 = .ok (.iadd, 1) := by decide +kernel
theorem dX12_next_37 : decode cX12_next 37 = .ok (.putfield 101, 3) := by decide +kernel
theorem dX12_next_40 : decode cX12_next 40 = .ok (.goto (-40), 3) := by decide +kernel
theorem dX12_next_43 : decode cX12_next 43 = .ok (.aload_n 0, 1) := by decide +kernel
theorem dX12_next_44 : decode cX12_next 44 = .ok (.aload_n 0, 1) := by decide +kernel
theorem dX12_next_45 : decode cX12_next 45 = .ok (.getfield 101, 3) := by decide +kernel
theorem dX12_next_48 : decode cX12_next 48 = .ok (.putfield 108, 3) := by decide +kernel
theorem dX12_next_51 : decode cX12_next 51 = .ok (.aload_n 0, 1) := by decide +kernel
theorem dX12_next_52 : decode cX12_next 52 = .ok (.iconst 0, 1) := by decide +kernel
theorem dX12_next_53 : decode cX12_next 53 = .ok (.putfield 111, 3) := by decide +kernel
theorem dX12_next_56 : decode cX12_next 56 = .ok (.aload_n 0, 1) := by decide +kernel
theorem dX12_next_57 : decode cX12_next 57 = .ok (.lconst 0, 1) := by decide +kernel
theorem dX12_next_58 : decode cX12_next 58 = .ok (.putfield 114, 3) := by decide +kernel
theorem dX12_next_61 : decode cX12_next 61 = .ok (.aload_n 0, 1) := by decide +kernel
theorem dX12_next_62 : decode cX12_next 62 = .ok (.getfield 101, 3) := by decide +kernel
theorem dX12_next_65 : decode cX12_next 65 = .ok (.aload_n 0, 1) := by decide +kernel
theorem dX12_next_66 : decode cX12_next 66 = .ok (.getfield 94, 3) := by decide +kernel
theorem dX12_next_69 : decode cX12_next 69 = .ok (.if_icmp .ne 11, 3) := by decide +kernel
theorem dX12_next_72 : decode cX12_next 72 = .ok (.aload_n 0, 1) := by decide +kernel
theorem dX12_next_73 : decode cX12_next 73 = .ok (.iconst 0, 1) := by decide +kernel
theorem dX12_next_74 : decode cX12_next 74 = .ok (.putfield 118, 3) := by decide +kernel
theorem dX12_next_77 : decode cX12_next 77 = .ok (.goto 230, 3) := by decide +kernel
theorem dX12_next_80 : decode cX12_next 80 = .ok (.aload_n 0, 1) := by decide +kernel
theorem dX12_next_81 : decode cX12_next 81 = .ok (.aload_n 0, 1) := by decide +kernel
theorem dX12_next_82 : decode cX12_next 82 = .ok (.getfield 101, 3) := by decide +kernel
theorem dX12_next_85 : decode cX12_next 85 = .ok (.bipush 97, 2) := by decide +kernel
theorem dX12_next_87 : decode cX12_next 87 = .ok (.bipush 122, 2) := by decide +kernel
theorem dX12_next_89 : decode cX12_next 89 = .ok (.invokevirtual 104, 3) := by decide +kernel
theorem dX12_next_92 : decode cX12_next 92 = .ok (.ifCond .eq 96, 3) := by decide +kernel
theorem dX12_next_95 : decode cX12_next 95 = .ok (.aload_n 0, 1) := by decide +kernel
theorem dX12_next_96 : decode cX12_next 96 = .ok (.iconst 1, 1) := by decide +kernel
theorem dX12_next_97 : decode cX12_next 97 = .ok (.putfield 118, 3) := by decide +kernel
theorem dX12_next_100 : decode cX12_next 100 = .ok (.iconst 0, 1) := by decide +kernel
theorem dX12_next_101 : decode cX12_next 101 = .ok (.istore_n 1, 1) := by decide +kernel
theorem dX12_next_102 : decode cX12_next 102 = .ok (.aload_n 0, 1) := by decide +kernel
theorem dX12_next_103 : decode cX12_next 103 = .ok (.aload_n 0, 1) := by decide +kernel
theorem dX12_next_104 : decode cX12_next 104 = .ok (.getfield 101, 3) := by decide +kernel
theorem dX12_next_107 : decode cX12_next 107 = .ok (.bipush 97, 2) := by decide +kernel
theorem dX12_next_109 : decode cX12_next 109 = .ok (.bipush 122, 2) := by decide +kernel
theorem dX12_next_111 : decode cX12_next 111 = .ok (.invokevirtual 104, 3) := by decide +kernel
theorem dX12_next_114 : decode cX12_next 114 = .ok (.ifCond .eq 71, 3) := by decide +kernel
theorem dX12_next_117 : decode cX12_next 117 = .ok (.aload_n 0, 1) := by decide +kernel
theorem dX12_next_118 : decode cX12_next 118 = .ok (.iload_n 1, 1) := by decide +kernel
theorem dX12_next_119 : decode cX12_next 119 = .ok (.bipush 11, 2) := by decide +kernel
theorem dX12_next_121 : decode cX12_next 121 = .ok (.if_icmp .le 9, 3) := by decide +kernel
theorem dX12_next_124 : decode cX12_next 124 = .ok (.ldc2_w 121, 3) := by decide +kernel
theorem dX12_next_127 : decode cX12_next 127 = .ok (.goto 26, 3) := by decide +kernel
theorem dX12_next_130 : decode cX12_next 130 = .ok (.ldc2_w 123, 3) := by decide +kernel
theorem dX12_next_133 : decode cX12_next 133 = .ok (.aload_n 0, 1) := by decide +kernel
theorem dX12_next_134 : decode cX12_next 134 = .ok (.getfield 114, 3) := by decide +kernel
theorem dX12_next_137 : decode cX12_next 137 = .ok (.lmul, 1) := by decide +kernel
theorem dX12_next_138 : decode cX12_next 138 = .ok (.aload_n 0, 1) := by decide +kernel
theorem dX12_next_139 : decode cX12_next 139 = .ok (.getfield 23, 3) := by decide +kernel
theorem dX12_next_142 : decode cX12_next 142 = .ok (.aload_n 0, 1) := by decide +kernel
theorem dX12_next_143 : decode cX12_next 143 = .ok (.getfield 101, 3) := by decide +kernel
theorem dX12_next_146 : decode cX12_next 146 = .ok (.baload, 1) := by decide +kernel
theorem dX12_next_147 : decode cX12_next 147 = .ok (.i2l, 1) := by decide +kernel
theorem dX12_next_148 : decode cX12_next 148 = .ok (.ladd, 1) := by decide +kernel
theorem dX12_next_149 : decode cX12_next 149 = .ok (.ldc2_w 125, 3) := by decide +kernel
theorem dX12_next_152 : decode cX12_next 152 = .ok (.lsub, 1) := by decide +kernel
theorem dX12_next_153 : decode cX12_next 153 = .ok (.putfield 114, 3) := by decide +kernel
theorem dX12_next_156 : decode cX12_next 156 = .ok (.iload_n 1, 1) := by decide +kernel
theorem dX12_next_157 : decode cX12_next 157 = .ok (.bipush 11, 2) := by decide +kernel
theorem dX12_next_159 : decode cX12_next 159 = .ok (.if_icmp .le 10, 3) := by decide +kernel
theorem dX12_next_162 : decode cX12_next 162 = .ok (.aload_n 0, 1) := by decide +kernel
theorem dX12_next_163 : decode cX12_next 163 = .ok (.ldc2_w 121, 3) := by decide +kernel
theorem dX12_next_166 : decode cX12_next 166 = .ok (.putfield 114, 3) := by decide +kernel
theorem dX12_next_169 : decode cX12_next 169 = .ok (.aload_n 0, 1) := by decide +kernel
theorem dX12_next_170 : decode cX12_next 170 = .ok (.dup, 1) := by decide +kernel
theorem dX12_next_171 : decode cX12_next 171 = .ok (.getfield 101, 3) := by decide +kernel
theorem dX12_next_174 : decode cX12_next 174 = .ok (.iconst 1, 1) := by decide +kernel
theorem dX12_next_175 : decode cX12_next 175 = .ok (.iadd, 1) := by decide +kernel
theorem dX12_next_176 : decode cX12_next 176 = .ok (.putfield 101, 3) := by decide +kernel
theorem dX12_next_179 : decode cX12_next 179 = .ok (.iinc 1 1, 3) := by decide +kernel
theorem dX12_next_182 : decode cX12_next 182 = .ok (.goto (-80), 3) := by decide +kernel
theorem dX12_next_185 : decode cX12_next 185 = .ok (.goto 122, 3) := by decide +kernel
theorem dX12_next_188 : decode cX12_next 188 = .ok (.aload_n 0, 1) := by decide +kernel
theorem dX12_next_189 : decode cX12_next 189 = .ok (.aload_n 0, 1) := by decide +kernel
theorem dX12_next_190 : decode cX12_next 190 = .ok (.getfield 101, 3) := by decide +kernel
theorem dX12_next_193 : decode cX12_next 193 = .ok (.bipush 48, 2) := by decide +kernel
theorem dX12_next_195 : decode cX12_next 195 = .ok (.bipush 57, 2) := by decide +kernel
theorem dX12_next_197 : decode cX12_next 197 = .ok (.invokevirtual 104, 3) := by decide +kernel
theorem dX12_next_200 : decode cX12_next 200 = .ok (.ifCond .eq 74, 3) := by decide +kernel
theorem dX12_next_203 : decode cX12_next 203 = .ok (.aload_n 0, 1) := by decide +kernel
theorem dX12_next_204 : decode cX12_next 204 = .ok (.iconst 2, 1) := by decide +kernel
theorem dX12_next_205 : decode cX12_next 205 = .ok (.putfield 118, 3) := by decide +kernel
theorem dX12_next_208 : decode cX12_next 208 = .ok (.aload_n 0, 1) := by decide +kernel
theorem dX12_next_209 : decode cX12_next 209 = .ok (.aload_n 0, 1) := by decide +kernel
theorem dX12_next_210 : decode cX12_next 210 = .ok (.getfield 101, 3) := by decide +kernel
theorem dX12_next_213 : decode cX12_next 213 = .ok (.bipush 48, 2) := by decide +kernel
theorem dX12_next_215 : decode cX12_next 215 = .ok (.bipush 57, 2) := by decide +kernel
theorem dX12_next_217 : decode cX12_next 217 = .ok (.invokevirtual 104, 3) := by decide +kernel
theorem dX12_next_220 : decode cX12_next 220 = .ok (.ifCond .eq 87, 3) := by decide +kernel
theorem dX12_next_223 : decode cX12_next 223 = .ok (.aload_n 0, 1) := by decide +kernel
theorem dX12_next_224 : decode cX12_next 224 = .ok (.aload_n 0, 1) := by decide +kernel
theorem dX12_next_225 : decode cX12_next 225 = .ok (.getfield 111, 3) := by decide +kernel
theorem dX12_next_228 : decode cX12_next 228 = .ok (.ldc 127, 2) := by decide +kernel
theorem dX12_next_230 : decode cX12_next 230 = .ok (.if_icmp .le 8, 3) := by decide +kernel
theorem dX12_next_233 : decode cX12_next 233 = .ok (.ldc 128, 2) := by decide +kernel
theorem dX12_next_235 : decode cX12_next 235 = .ok (.goto 23, 3) := by decide +kernel
theorem dX12_next_238 : decode cX12_next 238 = .ok (.bipush 10, 2) := by decide +kernel
theorem dX12_next_240 : decode cX12_next 240 = .ok (.aload_n 0, 1) := by decide +kernel
theorem dX12_next_241 : decode cX12_next 241 = .ok (.getfield 111, 3) := by decide +kernel
theorem dX12_next_244 : decode cX12_next 244 = .ok (.imul, 1) := by decide +kernel
theorem dX12_next_245 : decode cX12_next 245 = .ok (.aload_n 0, 1) := by decide +kernel
theorem dX12_next_246 : decode cX12_next 246 = .ok (.getfield 23, 3) := by decide +kernel
theorem dX12_next_249 : decode cX12_next 249 = .ok (.aload_n 0, 1) := by decide +kernel
theorem dX12_next_250 : decode cX12_next 250 = .ok (.getfield 101, 3) := by decide +kernel
theorem dX12_next_253 : decode cX12_next 253 = .ok (.baload, 1) := by decide +kernel
theorem dX12_next_254 : decode cX12_next 254 = .ok (.iadd, 1) := by decide +kernel
theorem dX12_next_255 : decode cX12_next 255 = .ok (.bipush 48, 2) := by decide +kernel
theorem dX12_next_257 : decode cX12_next 257 = .ok (.isub, 1) := by decide +kernel
theorem dX12_next_258 : decode cX12_next 258 = .ok (.putfield 111, 3) := by decide +kernel
theorem dX12_next_261 : decode cX12_next 261 = .ok (.aload_n 0, 1) := by decide +kernel
theorem dX12_next_262 : decode cX12_next 262 = .ok (.dup, 1) := by decide +kernel
theorem dX12_next_263 : decode cX12_next 263 = .ok (.getfield 101, 3) := by decide +kernel
theorem dX12_next_266 : decode cX12_next 266 = .ok (.iconst 1, 1) := by decide +kernel
theorem dX12_next_267 : decode cX12_next 267 = .ok (.iadd, 1) := by decide +kernel
theorem dX12_next_268 : decode cX12_next 268 = .ok (.putfield 101, 3) := by decide +kernel
theorem dX12_next_271 : decode cX12_next 271 = .ok (.goto (-63), 3) := by decide +kernel
theorem dX12_next_274 : decode cX12_next 274 = .ok (.aload_n 0, 1) := by decide +kernel
theorem dX12_next_275 : decode cX12_next 275 = .ok (.aload_n 0, 1) := by decide +kernel
theorem dX12_next_276 : decode cX12_next 276 = .ok (.getfield 23, 3) := by decide +kernel
theorem dX12_next_279 : decode cX12_next 279 = .ok (.aload_n 0, 1) := by decide +kernel
theorem dX12_next_280 : decode cX12_next 280 = .ok (.getfield 101, 3) := by decide +kernel
theorem dX12_next_283 : decode cX12_next 283 = .ok (.baload, 1) := by decide +kernel
theorem dX12_next_284 : decode cX12_next 284 = .ok (.bipush 59, 2) := by decide +kernel
theorem dX12_next_286 : decode cX12_next 286 = .ok (.if_icmp .ne 7, 3) := by decide +kernel
theorem dX12_next_289 : decode cX12_next 289 = .ok (.iconst 3, 1) := by decide +kernel
theorem dX12_next_290 : decode cX12_next 290 = .ok (.goto 4, 3) := by decide +kernel
theorem dX12_next_293 : decode cX12_next 293 = .ok (.iconst 4, 1) := by decide +kernel
theorem dX12_next_294 : decode cX12_next 294 = .ok (.putfield 118, 3) := by decide +kernel
theorem dX12_next_297 : decode cX12_next 297 = .ok (.aload_n 0, 1) := by decide +kernel
theorem dX12_next_298 : decode cX12_next 298 = .ok (.dup, 1) := by decide +kernel
theorem dX12_next_299 : decode cX12_next 299 = .ok (.getfield 101, 3) := by decide +kernel
theorem dX12_next_302 : decode cX12_next 302 = .ok (.iconst 1, 1) := by decide +kernel
theorem dX12_next_303 : decode cX12_next 303 = .ok (.iadd, 1) := by decide +kernel
theorem dX12_next_304 : decode cX12_next 304 = .ok (.putfield 101, 3) := by decide +kernel
theorem dX12_next_307 : decode cX12_next 307 = .ok (.return_, 1) := by decide +kernel
theorem dX12_takes_0 : decode cX12_takes 0 = .ok (.aload_n 0, 1) := by decide +kernel
theorem dX12_takes_1 : decode cX12_takes 1 = .ok (.lload_n 1, 1) := by decide +kernel
theorem dX12_takes_2 : decode cX12_takes 2 = .ok (.invokevirtual 135, 3) := by decide +kernel
theorem dX12_takes_5 : decode cX12_takes 5 = .ok (.ifCond .ne 5, 3) := by decide +kernel
theorem dX12_takes_8 : decode cX12_takes 8 = .ok (.iconst 0, 1) := by decide +kernel
theorem dX12_takes_9 : decode cX12_takes 9 = .ok (.ireturn, 1) := by decide +kernel
theorem dX12_takes_10 : decode cX12_takes 10 = .ok (.aload_n 0, 1) := by decide +kernel
theorem dX12_takes_11 : decode cX12_takes 11 = .ok (.invokevirtual 139, 3) := by decide +kernel
theorem dX12_takes_14 : decode cX12_takes 14 = .ok (.iconst 1, 1) := by decide +kernel
theorem dX12_takes_15 : decode cX12_takes 15 = .ok (.ireturn, 1) := by decide +kernel
theorem dX12_tells_0 : decode cX12_tells 0 = .ok (.aload_n 0, 1) := by decide +kernel
theorem dX12_tells_1 : decode cX12_tells 1 = .ok (.getfield 34, 3) := by decide +kernel
theorem dX12_tells_4 : decode cX12_tells 4 = .ok (.bipush 24, 2) := by decide +kernel
theorem dX12_tells_6 : decode cX12_tells 6 = .ok (.iload_n 1, 1) := by decide +kernel
theorem dX12_tells_7 : decode cX12_tells 7 = .ok (.iadd, 1) := by decide +kernel
theorem dX12_tells_8 : decode cX12_tells 8 = .ok (.iload_n 2, 1) := by decide +kernel
theorem dX12_tells_9 : decode cX12_tells 9 = .ok (.iastore, 1) := by decide +kernel
theorem dX12_tells_10 : decode cX12_tells 10 = .ok (.return_, 1) := by decide +kernel
theorem mm_k100000 : mm_rg 100000 100000 100000 := ⟨by decide, by decide⟩
theorem mm_k11 : mm_rg 11 11 11 := ⟨by decide, by decide⟩
theorem mm_k12 : mm_rg 12 12 12 := ⟨by decide, by decide⟩
theorem mm_k13 : mm_rg 13 13 13 := ⟨by decide, by decide⟩
theorem mm_k14 : mm_rg 14 14 14 := ⟨by decide, by decide⟩
theorem mm_k25 : mm_rg 25 25 25 := ⟨by decide, by decide⟩
theorem mm_k26 : mm_rg 26 26 26 := ⟨by decide, by decide⟩
theorem mm_k27 : mm_rg 27 27 27 := ⟨by decide, by decide⟩
theorem mm_k28 : mm_rg 28 28 28 := ⟨by decide, by decide⟩
theorem mm_k29 : mm_rg 29 29 29 := ⟨by decide, by decide⟩
theorem hd_X12_four : yX12_four.cls = RX12 ∧ yX12_four.cls ≠ "java/lang/invoke/MethodHandle" ∧ yX12_four.cls ≠ "java/lang/invoke/VarHandle" ∧ (parseMethodDescriptor yX12_four.desc).map (fun d => d.parameters.length) = some 1 := by decide +kernel
theorem hd_X12_is : yX12_is.cls = RX12 ∧ yX12_is.cls ≠ "java/lang/invoke/MethodHandle" ∧ yX12_is.cls ≠ "java/lang/invoke/VarHandle" ∧ (parseMethodDescriptor yX12_is.desc).map (fun d => d.parameters.length) = some 1 := by decide +kernel
theorem hd_X12_isByte : yX12_isByte.cls = RX12 ∧ yX12_isByte.cls ≠ "java/lang/invoke/MethodHandle" ∧ yX12_isByte.cls ≠ "java/lang/invoke/VarHandle" ∧ (parseMethodDescriptor yX12_isByte.desc).map (fun d => d.parameters.length) = some 3 := by decide +kernel
theorem hd_X12_next : yX12_next.cls = RX12 ∧ yX12_next.cls ≠ "java/lang/invoke/MethodHandle" ∧ yX12_next.cls ≠ "java/lang/invoke/VarHandle" ∧ (parseMethodDescriptor yX12_next.desc).map (fun d => d.parameters.length) = some 0 := by decide +kernel
theorem hd_X12_tells : yX12_tells.cls = RX12 ∧ yX12_tells.cls ≠ "java/lang/invoke/MethodHandle" ∧ yX12_tells.cls ≠ "java/lang/invoke/VarHandle" ∧ (parseMethodDescriptor yX12_tells.desc).map (fun d => d.parameters.length) = some 2 := by decide +kernel
theorem hs_X12_in : yX12_in.cls ≠ "java/lang/invoke/MethodHandle" ∧ yX12_in.cls ≠ "java/lang/invoke/VarHandle" ∧ (parseMethodDescriptor yX12_in.desc).map (fun d => d.parameters.length) = some 3 := by decide +kernel
set_option maxHeartbeats 4000000 in
set_option maxRecDepth 100000 in
theorem M1_X12_four (l : Launch) (G : va_G) (cy : Nat → ClassId) (sz : Nat) (a_0 : Nat) (i_0 : Int32) (i_1 : Int32) (a_1 : Nat) (a_2 : Nat) (a_3 : Nat) (a_4 : Nat) (a_5 : Nat) (i_2 : Int32) (i_3 : Int32) (i_4 : Int32) (i_5 : Int32) (i_6 : Int32) (j_0 : Int64) (i_7 : Int32) (i_8 : Int32) (i_9 : Int32) (i_10 : Int32) (a_6 : Nat) (a_7 : Nat) (a_8 : Nat) (a_9 : Nat) (a_10 : Nat) (a_11 : Nat) (a_12 : Nat) (a_13 : Nat) (a_14 : Nat) (a_15 : Nat) (a_16 : Nat) (a_17 : Nat) (a_18 : Nat) (i_11 : Int32) (i_12 : Int32) (i_13 : Int32) (i_14 : Int32) (i_15 : Int32) (i_16 : Int32) (a_19 : Nat) (i_17 : Int32) (a_20 : Nat) (f_0 : Nat → Int32) (h0 : mm_rg i_2 0 580) (h1 : mm_ar f_0 (-128) 127)  : mm_CV l yX12_four (mm_ws yX12_four cX12_four 3 (none)) ({ frames := 0, cells := 0, slots := 0, locals := 0 } : Room) G cy sz [(a_0, .inr (12, [.int i_1, .ref a_1, .ref a_2, .ref a_3, .ref a_4, .ref a_5, .int i_2, .int i_3, .int i_4, .int i_5, .int i_6, .long j_0, .int i_7, .int i_8, .int i_9, .int i_10, .ref a_6, .ref a_7, .ref a_8, .ref a_9, .ref a_10, .ref a_11, .ref a_12, .ref a_13, .ref a_14, .ref a_15, .ref a_16, .ref a_17, .ref a_18, .int i_11, .int i_12, .int i_13, .int i_14, .int i_15, .int i_16, .ref a_19, .int i_17, .ref a_20])), (a_5, .inl (cy 0, 600, .inl f_0))] [.ref a_0, .int i_0] (fun u : Int32 × (Nat → Int32) => [(a_0, .inr (12, [.int i_1, .ref a_1, .ref a_2, .ref a_3, .ref a_4, .ref a_5, .int u.1, .int i_3, .int i_4, .int i_5, .int i_6, .long j_0, .int i_7, .int i_8, .int i_9, .int i_10, .ref a_6, .ref a_7, .ref a_8, .ref a_9, .ref a_10, .ref a_11, .ref a_12, .ref a_13, .ref a_14, .ref a_15, .ref a_16, .ref a_17, .ref a_18, .int i_11, .int i_12, .int i_13, .int i_14, .int i_15, .int i_16, .ref a_19, .int i_17, .ref a_20])), (a_5, .inl (cy 0, 600, .inl u.2))]) (fun u : Int32 × (Nat → Int32) => mm_rg u.1 4 584 ∧ mm_ar u.2 (-128) 127) 0 0 := by
  refine mm_begin (lv := [(0, .ref a_0), (1, .int i_0)]) (by decide) (Nat.le_of_ble_eq_true rfl) rfl ?_
  intro p e s m below meth c A ls R args Q H locs hRe hQ hAe hx hb hr hlocks hml hown hnm hts hsz hA hS hP hK hD hZ hl
  have hRf : R.frames = 0 := by rw [hRe]
  have hRl : R.locals = 0 := by rw [hRe]
  have hRc : R.cells = 0 := by rw [hRe]
  have hRs : R.slots = 0 := by rw [hRe]
  refine lv_bipush (v := 24) hx hb dX12_four_0 (by decide) ?_
  refine lv_istore_n (lv' := [(2, .int 24), (0, .ref a_0), (1, .int i_0)]) hx hb dX12_four_2 rfl hl (by decide) rfl ?_
  clear hl
  clear ls
  intro ls hl
  refine lv_iload_n hx hb dX12_four_3 rfl (lv_at hl 0 rfl) ?_
  refine lv_if_lt (tgt := 36) hx hb dX12_four_4 (by decide) (fun c1 => ?_) (fun c1 => ?_)
  · have q2 := mm_ltL (h := (-1)) (mm_lt c1) mm_k24 mm_k0 (by decide)
    exact mm_no q2 (by decide)
  · refine lv_aload_n hx hb dX12_four_7 rfl (lv_at hl 1 rfl) ?_
    refine va_get (D := G) (ci := 12) (v := .ref a_5) (C := RX12) (T := TX12) (N := 38) hx hb hts (mm_i inlX12) hown hK.1 hP 0 rfl rfl 5 (by decide) (mm_h hts mm_w146) (fun _ h9 => h9) rfl dX12_four_8 ?_
    refine lv_aload_n hx hb dX12_four_11 rfl (lv_at hl 1 rfl) ?_
    refine va_get (D := G) (ci := 12) (v := .int i_2) (C := RX12) (T := TX12) (N := 38) hx hb hts (mm_i inlX12) hown hK.1 hP 0 rfl rfl 6 (by decide) (mm_h hts mm_w178) (fun _ h9 => h9) rfl dX12_four_12 ?_
    refine lv_iload_n hx hb dX12_four_15 rfl (lv_at hl 2 rfl) ?_
    refine lv_iload_n hx hb dX12_four_16 rfl (lv_at hl 0 rfl) ?_
    refine lv_ishr hx hb dX12_four_17 ?_
    refine lv_topi (fun v3 ev3 => ?_)
    obtain ⟨v4, ev4⟩ : ∃ y : Int32, y = v3.toInt8.toInt32 := ⟨_, rfl⟩
    refine lv_i2b hx hb dX12_four_18 ev4.symm ?_
    have rv4 : mm_rg v4 (-128) 127 := mm_i2b ev4
    refine va_bast hx hb hK.1 hP hD hS 1 0 rfl rfl (mm_in h0 (by decide)) dX12_four_19 ?_
    clear hP hD hS
    clear H locs
    obtain ⟨g5, eg5⟩ : ∃ z : Nat → Int32, z = upd f_0 i_2.toNatClampNeg (vp_nar .byte v4) := ⟨_, rfl⟩
    rw [← eg5]
    intro H locs (hP : va_P G vwCl [(a_0, .inr (12, [.int i_1, .ref a_1, .ref a_2, .ref a_3, .ref a_4, .ref a_5, .int i_2, .int i_3, .int i_4, .int i_5, .int i_6, .long j_0, .int i_7, .int i_8, .int i_9, .int i_10, .ref a_6, .ref a_7, .ref a_8, .ref a_9, .ref a_10, .ref a_11, .ref a_12, .ref a_13, .ref a_14, .ref a_15, .ref a_16, .ref a_17, .ref a_18, .int i_11, .int i_12, .int i_13, .int i_14, .int i_15, .int i_16, .ref a_19, .int i_17, .ref a_20])), (a_5, .inl (cy 0, 600, .inl g5))] H) (hD : va_D A [(a_0, .inr (12, [.int i_1, .ref a_1, .ref a_2, .ref a_3, .ref a_4, .ref a_5, .int i_2, .int i_3, .int i_4, .int i_5, .int i_6, .long j_0, .int i_7, .int i_8, .int i_9, .int i_10, .ref a_6, .ref a_7, .ref a_8, .ref a_9, .ref a_10, .ref a_11, .ref a_12, .ref a_13, .ref a_14, .ref a_15, .ref a_16, .ref a_17, .ref a_18, .int i_11, .int i_12, .int i_13, .int i_14, .int i_15, .int i_16, .ref a_19, .int i_17, .ref a_20])), (a_5, .inl (cy 0, 600, .inl g5))]) hS
    have rg5 : mm_ar g5 (-128) 127 := by rw [eg5]; exact mm_ar_upd (mm_ar_wk h1 (by decide)) (mm_nb _) _
    refine lv_aload_n hx hb dX12_four_20 rfl (lv_at hl 1 rfl) ?_
    refine lv_dup hx hb dX12_four_21 rfl ?_
    refine va_get (D := G) (ci := 12) (v := .int i_2) (C := RX12) (T := TX12) (N := 38) hx hb hts (mm_i inlX12) hown hK.1 hP 0 rfl rfl 6 (by decide) (mm_h hts mm_w178) (fun _ h9 => h9) rfl dX12_four_22 ?_
    refine lv_iconst (v := 1) hx hb dX12_four_25 (by decide) ?_
    refine lv_iadd hx hb dX12_four_26 ?_
    refine lv_topi (fun v6 ev6 => ?_)
    have rv6 : mm_rg v6 1 581 := mm_add ev6 h0 mm_k1 (by decide) (by decide)
    have tv6 := mm_addEc ev6 h0 mm_k1 (by decide) (k := 1) (by decide)
    refine va_put (D := G) (ci := 12) (v := .int v6) (ty := tyX12 6) (C := RX12) (T := TX12) (N := 38) hx hb hts (mm_i inlX12) tyX12 tyX12_ok nmX12 hown hK.1 hP hD hS 0 rfl rfl 6 (by decide) (mm_h hts mm_w178) (fun _ h9 => h9) rfl (tyX12_ok 6 (by decide)) rfl rfl (Nat.le_of_ble_eq_true rfl) dX12_four_27 ?_
    clear hP hD hS
    clear H locs
    intro H locs (hP : va_P G vwCl [(a_0, .inr (12, [.int i_1, .ref a_1, .ref a_2, .ref a_3, .ref a_4, .ref a_5, .int v6, .int i_3, .int i_4, .int i_5, .int i_6, .long j_0, .int i_7, .int i_8, .int i_9, .int i_10, .ref a_6, .ref a_7, .ref a_8, .ref a_9, .ref a_10, .ref a_11, .ref a_12, .ref a_13, .ref a_14, .ref a_15, .ref a_16, .ref a_17, .ref a_18, .int i_11, .int i_12, .int i_13, .int i_14, .int i_15, .int i_16, .ref a_19, .int i_17, .ref a_20])), (a_5, .inl (cy 0, 600, .inl g5))] H) (hD : va_D A [(a_0, .inr (12, [.int i_1, .ref a_1, .ref a_2, .ref a_3, .ref a_4, .ref a_5, .int v6, .int i_3, .int i_4, .int i_5, .int i_6, .long j_0, .int i_7, .int i_8, .int i_9, .int i_10, .ref a_6, .ref a_7, .ref a_8, .ref a_9, .ref a_10, .ref a_11, .ref a_12, .ref a_13, .ref a_14, .ref a_15, .ref a_16, .ref a_17, .ref a_18, .int i_11, .int i_12, .int i_13, .int i_14, .int i_15, .int i_16, .ref a_19, .int i_17, .ref a_20])), (a_5, .inl (cy 0, 600, .inl g5))]) hS
    refine lv_iinc (v := 16) (lv' := [(2, .int 16), (0, .ref a_0), (1, .int i_0)]) hx hb dX12_four_30 hl (k := 0) rfl (by decide) (by decide) rfl ?_
    clear hl
    clear ls
    intro ls hl
    refine lv_goto (tgt := 3) hx hb dX12_four_33 (by decide) ?_
    refine lv_iload_n hx hb dX12_four_3 rfl (lv_at hl 0 rfl) ?_
    refine lv_if_lt (tgt := 36) hx hb dX12_four_4 (by decide) (fun c7 => ?_) (fun c7 => ?_)
    · have q8 := mm_ltL (h := (-1)) (mm_lt c7) mm_k16 mm_k0 (by decide)
      exact mm_no q8 (by decide)
    · refine lv_aload_n hx hb dX12_four_7 rfl (lv_at hl 1 rfl) ?_
      refine va_get (D := G) (ci := 12) (v := .ref a_5) (C := RX12) (T := TX12) (N := 38) hx hb hts (mm_i inlX12) hown hK.1 hP 0 rfl rfl 5 (by decide) (mm_h hts mm_w146) (fun _ h9 => h9) rfl dX12_four_8 ?_
      refine lv_aload_n hx hb dX12_four_11 rfl (lv_at hl 1 rfl) ?_
      refine va_get (D := G) (ci := 12) (v := .int v6) (C := RX12) (T := TX12) (N := 38) hx hb hts (mm_i inlX12) hown hK.1 hP 0 rfl rfl 6 (by decide) (mm_h hts mm_w178) (fun _ h9 => h9) rfl dX12_four_12 ?_
      refine lv_iload_n hx hb dX12_four_15 rfl (lv_at hl 2 rfl) ?_
      refine lv_iload_n hx hb dX12_four_16 rfl (lv_at hl 0 rfl) ?_
      refine lv_ishr hx hb dX12_four_17 ?_
      refine lv_topi (fun v9 ev9 => ?_)
      obtain ⟨v10, ev10⟩ : ∃ y : Int32, y = v9.toInt8.toInt32 := ⟨_, rfl⟩
      refine lv_i2b hx hb dX12_four_18 ev10.symm ?_
      have rv10 : mm_rg v10 (-128) 127 := mm_i2b ev10
      refine va_bast hx hb hK.1 hP hD hS 1 0 rfl rfl (mm_in rv6 (by decide)) dX12_four_19 ?_
      clear hP hD hS
      clear H locs
      obtain ⟨g11, eg11⟩ : ∃ z : Nat → Int32, z = upd g5 v6.toNatClampNeg (vp_nar .byte v10) := ⟨_, rfl⟩
      rw [← eg11]
      intro H locs (hP : va_P G vwCl [(a_0, .inr (12, [.int i_1, .ref a_1, .ref a_2, .ref a_3, .ref a_4, .ref a_5, .int v6, .int i_3, .int i_4, .int i_5, .int i_6, .long j_0, .int i_7, .int i_8, .int i_9, .int i_10, .ref a_6, .ref a_7, .ref a_8, .ref a_9, .ref a_10, .ref a_11, .ref a_12, .ref a_13, .ref a_14, .ref a_15, .ref a_16, .ref a_17, .ref a_18, .int i_11, .int i_12, .int i_13, .int i_14, .int i_15, .int i_16, .ref a_19, .int i_17, .ref a_20])), (a_5, .inl (cy 0, 600, .inl g11))] H) (hD : va_D A [(a_0, .inr (12, [.int i_1, .ref a_1, .ref a_2, .ref a_3, .ref a_4, .ref a_5, .int v6, .int i_3, .int i_4, .int i_5, .int i_6, .long j_0, .int i_7, .int i_8, .int i_9, .int i_10, .ref a_6, .ref a_7, .ref a_8, .ref a_9, .ref a_10, .ref a_11, .ref a_12, .ref a_13, .ref a_14, .ref a_15, .ref a_16, .ref a_17, .ref a_18, .int i_11, .int i_12, .int i_13, .int i_14, .int i_15, .int i_16, .ref a_19, .int i_17, .ref a_20])), (a_5, .inl (cy 0, 600, .inl g11))]) hS
      have rg11 : mm_ar g11 (-128) 127 := by rw [eg11]; exact mm_ar_upd (mm_ar_wk rg5 (by decide)) (mm_nb _) _
      refine lv_aload_n hx hb dX12_four_20 rfl (lv_at hl 1 rfl) ?_
      refine lv_dup hx hb dX12_four_21 rfl ?_
      refine va_get (D := G) (ci := 12) (v := .int v6) (C := RX12) (T := TX12) (N := 38) hx hb hts (mm_i inlX12) hown hK.1 hP 0 rfl rfl 6 (by decide) (mm_h hts mm_w178) (fun _ h9 => h9) rfl dX12_four_22 ?_
      refine lv_iconst (v := 1) hx hb dX12_four_25 (by decide) ?_
      refine lv_iadd hx hb dX12_four_26 ?_
      refine lv_topi (fun v12 ev12 => ?_)
      have rv12 : mm_rg v12 2 582 := mm_add ev12 rv6 mm_k1 (by decide) (by decide)
      have tv12 := mm_addEc ev12 rv6 mm_k1 (by decide) (k := 1) (by decide)
      refine va_put (D := G) (ci := 12) (v := .int v12) (ty := tyX12 6) (C := RX12) (T := TX12) (N := 38) hx hb hts (mm_i inlX12) tyX12 tyX12_ok nmX12 hown hK.1 hP hD hS 0 rfl rfl 6 (by decide) (mm_h hts mm_w178) (fun _ h9 => h9) rfl (tyX12_ok 6 (by decide)) rfl rfl (Nat.le_of_ble_eq_true rfl) dX12_four_27 ?_
      clear hP hD hS
      clear H locs
      intro H locs (hP : va_P G vwCl [(a_0, .inr (12, [.int i_1, .ref a_1, .ref a_2, .ref a_3, .ref a_4, .ref a_5, .int v12, .int i_3, .int i_4, .int i_5, .int i_6, .long j_0, .int i_7, .int i_8, .int i_9, .int i_10, .ref a_6, .ref a_7, .ref a_8, .ref a_9, .ref a_10, .ref a_11, .ref a_12, .ref a_13, .ref a_14, .ref a_15, .ref a_16, .ref a_17, .ref a_18, .int i_11, .int i_12, .int i_13, .int i_14, .int i_15, .int i_16, .ref a_19, .int i_17, .ref a_20])), (a_5, .inl (cy 0, 600, .inl g11))] H) (hD : va_D A [(a_0, .inr (12, [.int i_1, .ref a_1, .ref a_2, .ref a_3, .ref a_4, .ref a_5, .int v12, .int i_3, .int i_4, .int i_5, .int i_6, .long j_0, .int i_7, .int i_8, .int i_9, .int i_10, .ref a_6, .ref a_7, .ref a_8, .ref a_9, .ref a_10, .ref a_11, .ref a_12, .ref a_13, .ref a_14, .ref a_15, .ref a_16, .ref a_17, .ref a_18, .int i_11, .int i_12, .int i_13, .int i_14, .int i_15, .int i_16, .ref a_19, .int i_17, .ref a_20])), (a_5, .inl (cy 0, 600, .inl g11))]) hS
      refine lv_iinc (v := 8) (lv' := [(2, .int 8), (0, .ref a_0), (1, .int i_0)]) hx hb dX12_four_30 hl (k := 0) rfl (by decide) (by decide) rfl ?_
      clear hl
      clear ls
      intro ls hl
      refine lv_goto (tgt := 3) hx hb dX12_four_33 (by decide) ?_
      refine lv_iload_n hx hb dX12_four_3 rfl (lv_at hl 0 rfl) ?_
      refine lv_if_lt (tgt := 36) hx hb dX12_four_4 (by decide) (fun c13 => ?_) (fun c13 => ?_)
      · have q14 := mm_ltL (h := (-1)) (mm_lt c13) mm_k8 mm_k0 (by decide)
        exact mm_no q14 (by decide)
      · refine lv_aload_n hx hb dX12_four_7 rfl (lv_at hl 1 rfl) ?_
        refine va_get (D := G) (ci := 12) (v := .ref a_5) (C := RX12) (T := TX12) (N := 38) hx hb hts (mm_i inlX12) hown hK.1 hP 0 rfl rfl 5 (by decide) (mm_h hts mm_w146) (fun _ h9 => h9) rfl dX12_four_8 ?_
        refine lv_aload_n hx hb dX12_four_11 rfl (lv_at hl 1 rfl) ?_
        refine va_get (D := G) (ci := 12) (v := .int v12) (C := RX12) (T := TX12) (N := 38) hx hb hts (mm_i inlX12) hown hK.1 hP 0 rfl rfl 6 (by decide) (mm_h hts mm_w178) (fun _ h9 => h9) rfl dX12_four_12 ?_
        refine lv_iload_n hx hb dX12_four_15 rfl (lv_at hl 2 rfl) ?_
        refine lv_iload_n hx hb dX12_four_16 rfl (lv_at hl 0 rfl) ?_
        refine lv_ishr hx hb dX12_four_17 ?_
        refine lv_topi (fun v15 ev15 => ?_)
        obtain ⟨v16, ev16⟩ : ∃ y : Int32, y = v15.toInt8.toInt32 := ⟨_, rfl⟩
        refine lv_i2b hx hb dX12_four_18 ev16.symm ?_
        have rv16 : mm_rg v16 (-128) 127 := mm_i2b ev16
        refine va_bast hx hb hK.1 hP hD hS 1 0 rfl rfl (mm_in rv12 (by decide)) dX12_four_19 ?_
        clear hP hD hS
        clear H locs
        obtain ⟨g17, eg17⟩ : ∃ z : Nat → Int32, z = upd g11 v12.toNatClampNeg (vp_nar .byte v16) := ⟨_, rfl⟩
        rw [← eg17]
        intro H locs (hP : va_P G vwCl [(a_0, .inr (12, [.int i_1, .ref a_1, .ref a_2, .ref a_3, .ref a_4, .ref a_5, .int v12, .int i_3, .int i_4, .int i_5, .int i_6, .long j_0, .int i_7, .int i_8, .int i_9, .int i_10, .ref a_6, .ref a_7, .ref a_8, .ref a_9, .ref a_10, .ref a_11, .ref a_12, .ref a_13, .ref a_14, .ref a_15, .ref a_16, .ref a_17, .ref a_18, .int i_11, .int i_12, .int i_13, .int i_14, .int i_15, .int i_16, .ref a_19, .int i_17, .ref a_20])), (a_5, .inl (cy 0, 600, .inl g17))] H) (hD : va_D A [(a_0, .inr (12, [.int i_1, .ref a_1, .ref a_2, .ref a_3, .ref a_4, .ref a_5, .int v12, .int i_3, .int i_4, .int i_5, .int i_6, .long j_0, .int i_7, .int i_8, .int i_9, .int i_10, .ref a_6, .ref a_7, .ref a_8, .ref a_9, .ref a_10, .ref a_11, .ref a_12, .ref a_13, .ref a_14, .ref a_15, .ref a_16, .ref a_17, .ref a_18, .int i_11, .int i_12, .int i_13, .int i_14, .int i_15, .int i_16, .ref a_19, .int i_17, .ref a_20])), (a_5, .inl (cy 0, 600, .inl g17))]) hS
        have rg17 : mm_ar g17 (-128) 127 := by rw [eg17]; exact mm_ar_upd (mm_ar_wk rg11 (by decide)) (mm_nb _) _
        refine lv_aload_n hx hb dX12_four_20 rfl (lv_at hl 1 rfl) ?_
        refine lv_dup hx hb dX12_four_21 rfl ?_
        refine va_get (D := G) (ci := 12) (v := .int v12) (C := RX12) (T := TX12) (N := 38) hx hb hts (mm_i inlX12) hown hK.1 hP 0 rfl rfl 6 (by decide) (mm_h hts mm_w178) (fun _ h9 => h9) rfl dX12_four_22 ?_
        refine lv_iconst (v := 1) hx hb dX12_four_25 (by decide) ?_
        refine lv_iadd hx hb dX12_four_26 ?_
        refine lv_topi (fun v18 ev18 => ?_)
        have rv18 : mm_rg v18 3 583 := mm_add ev18 rv12 mm_k1 (by decide) (by decide)
        have tv18 := mm_addEc ev18 rv12 mm_k1 (by decide) (k := 1) (by decide)
        refine va_put (D := G) (ci := 12) (v := .int v18) (ty := tyX12 6) (C := RX12) (T := TX12) (N := 38) hx hb hts (mm_i inlX12) tyX12 tyX12_ok nmX12 hown hK.1 hP hD hS 0 rfl rfl 6 (by decide) (mm_h hts mm_w178) (fun _ h9 => h9) rfl (tyX12_ok 6 (by decide)) rfl rfl (Nat.le_of_ble_eq_true rfl) dX12_four_27 ?_
        clear hP hD hS
        clear H locs
        intro H locs (hP : va_P G vwCl [(a_0, .inr (12, [.int i_1, .ref a_1, .ref a_2, .ref a_3, .ref a_4, .ref a_5, .int v18, .int i_3, .int i_4, .int i_5, .int i_6, .long j_0, .int i_7, .int i_8, .int i_9, .int i_10, .ref a_6, .ref a_7, .ref a_8, .ref a_9, .ref a_10, .ref a_11, .ref a_12, .ref a_13, .ref a_14, .ref a_15, .ref a_16, .ref a_17, .ref a_18, .int i_11, .int i_12, .int i_13, .int i_14, .int i_15, .int i_16, .ref a_19, .int i_17, .ref a_20])), (a_5, .inl (cy 0, 600, .inl g17))] H) (hD : va_D A [(a_0, .inr (12, [.int i_1, .ref a_1, .ref a_2, .ref a_3, .ref a_4, .ref a_5, .int v18, .int i_3, .int i_4, .int i_5, .int i_6, .long j_0, .int i_7, .int i_8, .int i_9, .int i_10, .ref a_6, .ref a_7, .ref a_8, .ref a_9, .ref a_10, .ref a_11, .ref a_12, .ref a_13, .ref a_14, .ref a_15, .ref a_16, .ref a_17, .ref a_18, .int i_11, .int i_12, .int i_13, .int i_14, .int i_15, .int i_16, .ref a_19, .int i_17, .ref a_20])), (a_5, .inl (cy 0, 600, .inl g17))]) hS
        refine lv_iinc (v := 0) (lv' := [(2, .int 0), (0, .ref a_0), (1, .int i_0)]) hx hb dX12_four_30 hl (k := 0) rfl (by decide) (by decide) rfl ?_
        clear hl
        clear ls
        intro ls hl
        refine lv_goto (tgt := 3) hx hb dX12_four_33 (by decide) ?_
        refine lv_iload_n hx hb dX12_four_3 rfl (lv_at hl 0 rfl) ?_
        refine lv_if_lt (tgt := 36) hx hb dX12_four_4 (by decide) (fun c19 => ?_) (fun c19 => ?_)
        · have q20 := mm_ltL (h := (-1)) (mm_lt c19) mm_k0 mm_k0 (by decide)
          exact mm_no q20 (by decide)
        · refine lv_aload_n hx hb dX12_four_7 rfl (lv_at hl 1 rfl) ?_
          refine va_get (D := G) (ci := 12) (v := .ref a_5) (C := RX12) (T := TX12) (N := 38) hx hb hts (mm_i inlX12) hown hK.1 hP 0 rfl rfl 5 (by decide) (mm_h hts mm_w146) (fun _ h9 => h9) rfl dX12_four_8 ?_
          refine lv_aload_n hx hb dX12_four_11 rfl (lv_at hl 1 rfl) ?_
          refine va_get (D := G) (ci := 12) (v := .int v18) (C := RX12) (T := TX12) (N := 38) hx hb hts (mm_i inlX12) hown hK.1 hP 0 rfl rfl 6 (by decide) (mm_h hts mm_w178) (fun _ h9 => h9) rfl dX12_four_12 ?_
          refine lv_iload_n hx hb dX12_four_15 rfl (lv_at hl 2 rfl) ?_
          refine lv_iload_n hx hb dX12_four_16 rfl (lv_at hl 0 rfl) ?_
          refine lv_ishr hx hb dX12_four_17 ?_
          refine lv_topi (fun v21 ev21 => ?_)
          obtain ⟨v22, ev22⟩ : ∃ y : Int32, y = v21.toInt8.toInt32 := ⟨_, rfl⟩
          refine lv_i2b hx hb dX12_four_18 ev22.symm ?_
          have rv22 : mm_rg v22 (-128) 127 := mm_i2b ev22
          refine va_bast hx hb hK.1 hP hD hS 1 0 rfl rfl (mm_in rv18 (by decide)) dX12_four_19 ?_
          clear hP hD hS
          clear H locs
          obtain ⟨g23, eg23⟩ : ∃ z : Nat → Int32, z = upd g17 v18.toNatClampNeg (vp_nar .byte v22) := ⟨_, rfl⟩
          rw [← eg23]
          intro H locs (hP : va_P G vwCl [(a_0, .inr (12, [.int i_1, .ref a_1, .ref a_2, .ref a_3, .ref a_4, .ref a_5, .int v18, .int i_3, .int i_4, .int i_5, .int i_6, .long j_0, .int i_7, .int i_8, .int i_9, .int i_10, .ref a_6, .ref a_7, .ref a_8, .ref a_9, .ref a_10, .ref a_11, .ref a_12, .ref a_13, .ref a_14, .ref a_15, .ref a_16, .ref a_17, .ref a_18, .int i_11, .int i_12, .int i_13, .int i_14, .int i_15, .int i_16, .ref a_19, .int i_17, .ref a_20])), (a_5, .inl (cy 0, 600, .inl g23))] H) (hD : va_D A [(a_0, .inr (12, [.int i_1, .ref a_1, .ref a_2, .ref a_3, .ref a_4, .ref a_5, .int v18, .int i_3, .int i_4, .int i_5, .int i_6, .long j_0, .int i_7, .int i_8, .int i_9, .int i_10, .ref a_6, .ref a_7, .ref a_8, .ref a_9, .ref a_10, .ref a_11, .ref a_12, .ref a_13, .ref a_14, .ref a_15, .ref a_16, .ref a_17, .ref a_18, .int i_11, .int i_12, .int i_13, .int i_14, .int i_15, .int i_16, .ref a_19, .int i_17, .ref a_20])), (a_5, .inl (cy 0, 600, .inl g23))]) hS
          have rg23 : mm_ar g23 (-128) 127 := by rw [eg23]; exact mm_ar_upd (mm_ar_wk rg17 (by decide)) (mm_nb _) _
          refine lv_aload_n hx hb dX12_four_20 rfl (lv_at hl 1 rfl) ?_
          refine lv_dup hx hb dX12_four_21 rfl ?_
          refine va_get (D := G) (ci := 12) (v := .int v18) (C := RX12) (T := TX12) (N := 38) hx hb hts (mm_i inlX12) hown hK.1 hP 0 rfl rfl 6 (by decide) (mm_h hts mm_w178) (fun _ h9 => h9) rfl dX12_four_22 ?_
          refine lv_iconst (v := 1) hx hb dX12_four_25 (by decide) ?_
          refine lv_iadd hx hb dX12_four_26 ?_
          refine lv_topi (fun v24 ev24 => ?_)
          have rv24 : mm_rg v24 4 584 := mm_add ev24 rv18 mm_k1 (by decide) (by decide)
          have tv24 := mm_addEc ev24 rv18 mm_k1 (by decide) (k := 1) (by decide)
          refine va_put (D := G) (ci := 12) (v := .int v24) (ty := tyX12 6) (C := RX12) (T := TX12) (N := 38) hx hb hts (mm_i inlX12) tyX12 tyX12_ok nmX12 hown hK.1 hP hD hS 0 rfl rfl 6 (by decide) (mm_h hts mm_w178) (fun _ h9 => h9) rfl (tyX12_ok 6 (by decide)) rfl rfl (Nat.le_of_ble_eq_true rfl) dX12_four_27 ?_
          clear hP hD hS
          clear H locs
          intro H locs (hP : va_P G vwCl [(a_0, .inr (12, [.int i_1, .ref a_1, .ref a_2, .ref a_3, .ref a_4, .ref a_5, .int v24, .int i_3, .int i_4, .int i_5, .int i_6, .long j_0, .int i_7, .int i_8, .int i_9, .int i_10, .ref a_6, .ref a_7, .ref a_8, .ref a_9, .ref a_10, .ref a_11, .ref a_12, .ref a_13, .ref a_14, .ref a_15, .ref a_16, .ref a_17, .ref a_18, .int i_11, .int i_12, .int i_13, .int i_14, .int i_15, .int i_16, .ref a_19, .int i_17, .ref a_20])), (a_5, .inl (cy 0, 600, .inl g23))] H) (hD : va_D A [(a_0, .inr (12, [.int i_1, .ref a_1, .ref a_2, .ref a_3, .ref a_4, .ref a_5, .int v24, .int i_3, .int i_4, .int i_5, .int i_6, .long j_0, .int i_7, .int i_8, .int i_9, .int i_10, .ref a_6, .ref a_7, .ref a_8, .ref a_9, .ref a_10, .ref a_11, .ref a_12, .ref a_13, .ref a_14, .ref a_15, .ref a_16, .ref a_17, .ref a_18, .int i_11, .int i_12, .int i_13, .int i_14, .int i_15, .int i_16, .ref a_19, .int i_17, .ref a_20])), (a_5, .inl (cy 0, 600, .inl g23))]) hS
          refine lv_iinc (v := (-8)) (lv' := [(2, .int (-8)), (0, .ref a_0), (1, .int i_0)]) hx hb dX12_four_30 hl (k := 0) rfl (by decide) (by decide) rfl ?_
          clear hl
          clear ls
          intro ls hl
          refine lv_goto (tgt := 3) hx hb dX12_four_33 (by decide) ?_
          refine lv_iload_n hx hb dX12_four_3 rfl (lv_at hl 0 rfl) ?_
          refine lv_if_lt (tgt := 36) hx hb dX12_four_4 (by decide) (fun c25 => ?_) (fun c25 => ?_)
          · subst hAe
            rw [hQ]
            exact W.vret hx hb hr (fun t ht hW => ⟨⟨(v24, g23), rfl, ⟨rv24, rg23⟩, by rw [ht]; exact hP, hK.warm hW, hD⟩, hS.F ht⟩) hS.2.2 dX12_four_36
          · have q26 := mm_leL (mm_nlt c25) mm_k0 mm_km8
            exact mm_no q26 (by decide)

set_option maxHeartbeats 4000000 in
set_option maxRecDepth 100000 in
theorem M2_X12_four (l : Launch) (G : va_G) (cy : Nat → ClassId) (sz : Nat) (a_0 : Nat) (i_0 : Int32) (i_1 : Int32) (a_1 : Nat) (a_2 : Nat) (a_3 : Nat) (a_4 : Nat) (a_5 : Nat) (i_2 : Int32) (i_3 : Int32) (i_4 : Int32) (i_5 : Int32) (i_6 : Int32) (j_0 : Int64) (i_7 : Int32) (i_8 : Int32) (i_9 : Int32) (i_10 : Int32) (a_6 : Nat) (a_7 : Nat) (a_8 : Nat) (a_9 : Nat) (a_10 : Nat) (a_11 : Nat) (a_12 : Nat) (a_13 : Nat) (a_14 : Nat) (a_15 : Nat) (a_16 : Nat) (a_17 : Nat) (a_18 : Nat) (i_11 : Int32) (i_12 : Int32) (i_13 : Int32) (i_14 : Int32) (i_15 : Int32) (i_16 : Int32) (a_19 : Nat) (i_17 : Int32) (a_20 : Nat) (f_0 : Nat → Int32) (h0 : mm_rg i_2 4 584) (h1 : mm_ar f_0 (-128) 127)  : mm_CV l yX12_four (mm_ws yX12_four cX12_four 3 (none)) ({ frames := 0, cells := 0, slots := 0, locals := 0 } : Room) G cy sz [(a_0, .inr (12, [.int i_1, .ref a_1, .ref a_2, .ref a_3, .ref a_4, .ref a_5, .int i_2, .int i_3, .int i_4, .int i_5, .int i_6, .long j_0, .int i_7, .int i_8, .int i_9, .int i_10, .ref a_6, .ref a_7, .ref a_8, .ref a_9, .ref a_10, .ref a_11, .ref a_12, .ref a_13, .ref a_14, .ref a_15, .ref a_16, .ref a_17, .ref a_18, .int i_11, .int i_12, .int i_13, .int i_14, .int i_15, .int i_16, .ref a_19, .int i_17, .ref a_20])), (a_5, .inl (cy 0, 600, .inl f_0))] [.ref a_0, .int i_0] (fun u : Int32 × (Nat → Int32) => [(a_0, .inr (12, [.int i_1, .ref a_1, .ref a_2, .ref a_3, .ref a_4, .ref a_5, .int u.1, .int i_3, .int i_4, .int i_5, .int i_6, .long j_0, .int i_7, .int i_8, .int i_9, .int i_10, .ref a_6, .ref a_7, .ref a_8, .ref a_9, .ref a_10, .ref a_11, .ref a_12, .ref a_13, .ref a_14, .ref a_15, .ref a_16, .ref a_17, .ref a_18, .int i_11, .int i_12, .int i_13, .int i_14, .int i_15, .int i_16, .ref a_19, .int i_17, .ref a_20])), (a_5, .inl (cy 0, 600, .inl u.2))]) (fun u : Int32 × (Nat → Int32) => mm_rg u.1 8 588 ∧ mm_ar u.2 (-128) 127) 0 0 := by
  refine mm_begin (lv := [(0, .ref a_0), (1, .int i_0)]) (by decide) (Nat.le_of_ble_eq_true rfl) rfl ?_
  intro p e s m below meth c A ls R args Q H locs hRe hQ hAe hx hb hr hlocks hml hown hnm hts hsz hA hS hP hK hD hZ hl
  have hRf : R.frames = 0 := by rw [hRe]
  have hRl : R.locals = 0 := by rw [hRe]
  have hRc : R.cells = 0 := by rw [hRe]
  have hRs : R.slots = 0 := by rw [hRe]
  refine lv_bipush (v := 24) hx hb dX12_four_0 (by decide) ?_
  refine lv_istore_n (lv' := [(2, .int 24), (0, .ref a_0), (1, .int i_0)]) hx hb dX12_four_2 rfl hl (by decide) rfl ?_
  clear hl
  clear ls
  intro ls hl
  refine lv_iload_n hx hb dX12_four_3 rfl (lv_at hl 0 rfl) ?_
  refine lv_if_lt (tgt := 36) hx hb dX12_four_4 (by decide) (fun c1 => ?_) (fun c1 => ?_)
  · have q2 := mm_ltL (h := (-1)) (mm_lt c1) mm_k24 mm_k0 (by decide)
    exact mm_no q2 (by decide)
  · refine lv_aload_n hx hb dX12_four_7 rfl (lv_at hl 1 rfl) ?_
    refine va_get (D := G) (ci := 12) (v := .ref a_5) (C := RX12) (T := TX12) (N := 38) hx hb hts (mm_i inlX12) hown hK.1 hP 0 rfl rfl 5 (by decide) (mm_h hts mm_w146) (fun _ h9 => h9) rfl dX12_four_8 ?_
    refine lv_aload_n hx hb dX12_four_11 rfl (lv_at hl 1 rfl) ?_
    refine va_get (D := G) (ci := 12) (v := .int i_2) (C := RX12) (T := TX12) (N := 38) hx hb hts (mm_i inlX12) hown hK.1 hP 0 rfl rfl 6 (by decide) (mm_h hts mm_w178) (fun _ h9 => h9) rfl dX12_four_12 ?_
    refine lv_iload_n hx hb dX12_four_15 rfl (lv_at hl 2 rfl) ?_
    refine lv_iload_n hx hb dX12_four_16 rfl (lv_at hl 0 rfl) ?_
    refine lv_ishr hx hb dX12_four_17 ?_
    refine lv_topi (fun v3 ev3 => ?_)
    obtain ⟨v4, ev4⟩ : ∃ y : Int32, y = v3.toInt8.toInt32 := ⟨_, rfl⟩
    refine lv_i2b hx hb dX12_four_18 ev4.symm ?_
    have rv4 : mm_rg v4 (-128) 127 := mm_i2b ev4
    refine va_bast hx hb hK.1 hP hD hS 1 0 rfl rfl (mm_in h0 (by decide)) dX12_four_19 ?_
    clear hP hD hS
    clear H locs
    obtain ⟨g5, eg5⟩ : ∃ z : Nat → Int32, z = upd f_0 i_2.toNatClampNeg (vp_nar .byte v4) := ⟨_, rfl⟩
    rw [← eg5]
    intro H locs (hP : va_P G vwCl [(a_0, .inr (12, [.int i_1, .ref a_1, .ref a_2, .ref a_3, .ref a_4, .ref a_5, .int i_2, .int i_3, .int i_4, .int i_5, .int i_6, .long j_0, .int i_7, .int i_8, .int i_9, .int i_10, .ref a_6, .ref a_7, .ref a_8, .ref a_9, .ref a_10, .ref a_11, .ref a_12, .ref a_13, .ref a_14, .ref a_15, .ref a_16, .ref a_17, .ref a_18, .int i_11, .int i_12, .int i_13, .int i_14, .int i_15, .int i_16, .ref a_19, .int i_17, .ref a_20])), (a_5, .inl (cy 0, 600, .inl g5))] H) (hD : va_D A [(a_0, .inr (12, [.int i_1, .ref a_1, .ref a_2, .ref a_3, .ref a_4, .ref a_5, .int i_2, .int i_3, .int i_4, .int i_5, .int i_6, .long j_0, .int i_7, .int i_8, .int i_9, .int i_10, .ref a_6, .ref a_7, .ref a_8, .ref a_9, .ref a_10, .ref a_11, .ref a_12, .ref a_13, .ref a_14, .ref a_15, .ref a_16, .ref a_17, .ref a_18, .int i_11, .int i_12, .int i_13, .int i_14, .int i_15, .int i_16, .ref a_19, .int i_17, .ref a_20])), (a_5, .inl (cy 0, 600, .inl g5))]) hS
    have rg5 : mm_ar g5 (-128) 127 := by rw [eg5]; exact mm_ar_upd (mm_ar_wk h1 (by decide)) (mm_nb _) _
    refine lv_aload_n hx hb dX12_four_20 rfl (lv_at hl 1 rfl) ?_
    refine lv_dup hx hb dX12_four_21 rfl ?_
    refine va_get (D := G) (ci := 12) (v := .int i_2) (C := RX12) (T := TX12) (N := 38) hx hb hts (mm_i inlX12) hown hK.1 hP 0 rfl rfl 6 (by decide) (mm_h hts mm_w178) (fun _ h9 => h9) rfl dX12_four_22 ?_
    refine lv_iconst (v := 1) hx hb dX12_four_25 (by decide) ?_
    refine lv_iadd hx hb dX12_four_26 ?_
    refine lv_topi (fun v6 ev6 => ?_)
    have rv6 : mm_rg v6 5 585 := mm_add ev6 h0 mm_k1 (by decide) (by decide)
    have tv6 := mm_addEc ev6 h0 mm_k1 (by decide) (k := 1) (by decide)
    refine va_put (D := G) (ci := 12) (v := .int v6) (ty := tyX12 6) (C := RX12) (T := TX12) (N := 38) hx hb hts (mm_i inlX12) tyX12 tyX12_ok nmX12 hown hK.1 hP hD hS 0 rfl rfl 6 (by decide) (mm_h hts mm_w178) (fun _ h9 => h9) rfl (tyX12_ok 6 (by decide)) rfl rfl (Nat.le_of_ble_eq_true rfl) dX12_four_27 ?_
    clear hP hD hS
    clear H locs
    intro H locs (hP : va_P G vwCl [(a_0, .inr (12, [.int i_1, .ref a_1, .ref a_2, .ref a_3, .ref a_4, .ref a_5, .int v6, .int i_3, .int i_4, .int i_5, .int i_6, .long j_0, .int i_7, .int i_8, .int i_9, .int i_10, .ref a_6, .ref a_7, .ref a_8, .ref a_9, .ref a_10, .ref a_11, .ref a_12, .ref a_13, .ref a_14, .ref a_15, .ref a_16, .ref a_17, .ref a_18, .int i_11, .int i_12, .int i_13, .int i_14, .int i_15, .int i_16, .ref a_19, .int i_17, .ref a_20])), (a_5, .inl (cy 0, 600, .inl g5))] H) (hD : va_D A [(a_0, .inr (12, [.int i_1, .ref a_1, .ref a_2, .ref a_3, .ref a_4, .ref a_5, .int v6, .int i_3, .int i_4, .int i_5, .int i_6, .long j_0, .int i_7, .int i_8, .int i_9, .int i_10, .ref a_6, .ref a_7, .ref a_8, .ref a_9, .ref a_10, .ref a_11, .ref a_12, .ref a_13, .ref a_14, .ref a_15, .ref a_16, .ref a_17, .ref a_18, .int i_11, .int i_12, .int i_13, .int i_14, .int i_15, .int i_16, .ref a_19, .int i_17, .ref a_20])), (a_5, .inl (cy 0, 600, .inl g5))]) hS
    refine lv_iinc (v := 16) (lv' := [(2, .int 16), (0, .ref a_0), (1, .int i_0)]) hx hb dX12_four_30 hl (k := 0) rfl (by decide) (by decide) rfl ?_
    clear hl
    clear ls
    intro ls hl
    refine lv_goto (tgt := 3) hx hb dX12_four_33 (by decide) ?_
    refine lv_iload_n hx hb dX12_four_3 rfl (lv_at hl 0 rfl) ?_
    refine lv_if_lt (tgt := 36) hx hb dX12_four_4 (by decide) (fun c7 => ?_) (fun c7 => ?_)
    · have q8 := mm_ltL (h := (-1)) (mm_lt c7) mm_k16 mm_k0 (by decide)
      exact mm_no q8 (by decide)
    · refine lv_aload_n hx hb dX12_four_7 rfl (lv_at hl 1 rfl) ?_
      refine va_get (D := G) (ci := 12) (v := .ref a_5) (C := RX12) (T := TX12) (N := 38) hx hb hts (mm_i inlX12) hown hK.1 hP 0 rfl rfl 5 (by decide) (mm_h hts mm_w146) (fun _ h9 => h9) rfl dX12_four_8 ?_
      refine lv_aload_n hx hb dX12_four_11 rfl (lv_at hl 1 rfl) ?_
      refine va_get (D := G) (ci := 12) (v := .int v6) (C := RX12) (T := TX12) (N := 38) hx hb hts (mm_i inlX12) hown hK.1 hP 0 rfl rfl 6 (by decide) (mm_h hts mm_w178) (fun _ h9 => h9) rfl dX12_four_12 ?_
      refine lv_iload_n hx hb dX12_four_15 rfl (lv_at hl 2 rfl) ?_
      refine lv_iload_n hx hb dX12_four_16 rfl (lv_at hl 0 rfl) ?_
      refine lv_ishr hx hb dX12_four_17 ?_
      refine lv_topi (fun v9 ev9 => ?_)
      obtain ⟨v10, ev10⟩ : ∃ y : Int32, y = v9.toInt8.toInt32 := ⟨_, rfl⟩
      refine lv_i2b hx hb dX12_four_18 ev10.symm ?_
      have rv10 : mm_rg v10 (-128) 127 := mm_i2b ev10
      refine va_bast hx hb hK.1 hP hD hS 1 0 rfl rfl (mm_in rv6 (by decide)) dX12_four_19 ?_
      clear hP hD hS
      clear H locs
      obtain ⟨g11, eg11⟩ : ∃ z : Nat → Int32, z = upd g5 v6.toNatClampNeg (vp_nar .byte v10) := ⟨_, rfl⟩
      rw [← eg11]
      intro H locs (hP : va_P G vwCl [(a_0, .inr (12, [.int i_1, .ref a_1, .ref a_2, .ref a_3, .ref a_4, .ref a_5, .int v6, .int i_3, .int i_4, .int i_5, .int i_6, .long j_0, .int i_7, .int i_8, .int i_9, .int i_10, .ref a_6, .ref a_7, .ref a_8, .ref a_9, .ref a_10, .ref a_11, .ref a_12, .ref a_13, .ref a_14, .ref a_15, .ref a_16, .ref a_17, .ref a_18, .int i_11, .int i_12, .int i_13, .int i_14, .int i_15, .int i_16, .ref a_19, .int i_17, .ref a_20])), (a_5, .inl (cy 0, 600, .inl g11))] H) (hD : va_D A [(a_0, .inr (12, [.int i_1, .ref a_1, .ref a_2, .ref a_3, .ref a_4, .ref a_5, .int v6, .int i_3, .int i_4, .int i_5, .int i_6, .long j_0, .int i_7, .int i_8, .int i_9, .int i_10, .ref a_6, .ref a_7, .ref a_8, .ref a_9, .ref a_10, .ref a_11, .ref a_12, .ref a_13, .ref a_14, .ref a_15, .ref a_16, .ref a_17, .ref a_18, .int i_11, .int i_12, .int i_13, .int i_14, .int i_15, .int i_16, .ref a_19, .int i_17, .ref a_20])), (a_5, .inl (cy 0, 600, .inl g11))]) hS
      have rg11 : mm_ar g11 (-128) 127 := by rw [eg11]; exact mm_ar_upd (mm_ar_wk rg5 (by decide)) (mm_nb _) _
      refine lv_aload_n hx hb dX12_four_20 rfl (lv_at hl 1 rfl) ?_
      refine lv_dup hx hb dX12_four_21 rfl ?_
      refine va_get (D := G) (ci := 12) (v := .int v6) (C := RX12) (T := TX12) (N := 38) hx hb hts (mm_i inlX12) hown hK.1 hP 0 rfl rfl 6 (by decide) (mm_h hts mm_w178) (fun _ h9 => h9) rfl dX12_four_22 ?_
      refine lv_iconst (v := 1) hx hb dX12_four_25 (by decide) ?_
      refine lv_iadd hx hb dX12_four_26 ?_
      refine lv_topi (fun v12 ev12 => ?_)
      have rv12 : mm_rg v12 6 586 := mm_add ev12 rv6 mm_k1 (by decide) (by decide)
      have tv12 := mm_addEc ev12 rv6 mm_k1 (by decide) (k := 1) (by decide)
      refine va_put (D := G) (ci := 12) (v := .int v12) (ty := tyX12 6) (C := RX12) (T := TX12) (N := 38) hx hb hts (mm_i inlX12) tyX12 tyX12_ok nmX12 hown hK.1 hP hD hS 0 rfl rfl 6 (by decide) (mm_h hts mm_w178) (fun _ h9 => h9) rfl (tyX12_ok 6 (by decide)) rfl rfl (Nat.le_of_ble_eq_true rfl) dX12_four_27 ?_
      clear hP hD hS
      clear H locs
      intro H locs (hP : va_P G vwCl [(a_0, .inr (12, [.int i_1, .ref a_1, .ref a_2, .ref a_3, .ref a_4, .ref a_5, .int v12, .int i_3, .int i_4, .int i_5, .int i_6, .long j_0, .int i_7, .int i_8, .int i_9, .int i_10, .ref a_6, .ref a_7, .ref a_8, .ref a_9, .ref a_10, .ref a_11, .ref a_12, .ref a_13, .ref a_14, .ref a_15, .ref a_16, .ref a_17, .ref a_18, .int i_11, .int i_12, .int i_13, .int i_14, .int i_15, .int i_16, .ref a_19, .int i_17, .ref a_20])), (a_5, .inl (cy 0, 600, .inl g11))] H) (hD : va_D A [(a_0, .inr (12, [.int i_1, .ref a_1, .ref a_2, .ref a_3, .ref a_4, .ref a_5, .int v12, .int i_3, .int i_4, .int i_5, .int i_6, .long j_0, .int i_7, .int i_8, .int i_9, .int i_10, .ref a_6, .ref a_7, .ref a_8, .ref a_9, .ref a_10, .ref a_11, .ref a_12, .ref a_13, .ref a_14, .ref a_15, .ref a_16, .ref a_17, .ref a_18, .int i_11, .int i_12, .int i_13, .int i_14, .int i_15, .int i_16, .ref a_19, .int i_17, .ref a_20])), (a_5, .inl (cy 0, 600, .inl g11))]) hS
      refine lv_iinc (v := 8) (lv' := [(2, .int 8), (0, .ref a_0), (1, .int i_0)]) hx hb dX12_four_30 hl (k := 0) rfl (by decide) (by decide) rfl ?_
      clear hl
      clear ls
      intro ls hl
      refine lv_goto (tgt := 3) hx hb dX12_four_33 (by decide) ?_
      refine lv_iload_n hx hb dX12_four_3 rfl (lv_at hl 0 rfl) ?_
      refine lv_if_lt (tgt := 36) hx hb dX12_four_4 (by decide) (fun c13 => ?_) (fun c13 => ?_)
      · have q14 := mm_ltL (h := (-1)) (mm_lt c13) mm_k8 mm_k0 (by decide)
        exact mm_no q14 (by decide)
      · refine lv_aload_n hx hb dX12_four_7 rfl (lv_at hl 1 rfl) ?_
        refine va_get (D := G) (ci := 12) (v := .ref a_5) (C := RX12) (T := TX12) (N := 38) hx hb hts (mm_i inlX12) hown hK.1 hP 0 rfl rfl 5 (by decide) (mm_h hts mm_w146) (fun _ h9 => h9) rfl dX12_four_8 ?_
        refine lv_aload_n hx hb dX12_four_11 rfl (lv_at hl 1 rfl) ?_
        refine va_get (D := G) (ci := 12) (v := .int v12) (C := RX12) (T := TX12) (N := 38) hx hb hts (mm_i inlX12) hown hK.1 hP 0 rfl rfl 6 (by decide) (mm_h hts mm_w178) (fun _ h9 => h9) rfl dX12_four_12 ?_
        refine lv_iload_n hx hb dX12_four_15 rfl (lv_at hl 2 rfl) ?_
        refine lv_iload_n hx hb dX12_four_16 rfl (lv_at hl 0 rfl) ?_
        refine lv_ishr hx hb dX12_four_17 ?_
        refine lv_topi (fun v15 ev15 => ?_)
        obtain ⟨v16, ev16⟩ : ∃ y : Int32, y = v15.toInt8.toInt32 := ⟨_, rfl⟩
        refine lv_i2b hx hb dX12_four_18 ev16.symm ?_
        have rv16 : mm_rg v16 (-128) 127 := mm_i2b ev16
        refine va_bast hx hb hK.1 hP hD hS 1 0 rfl rfl (mm_in rv12 (by decide)) dX12_four_19 ?_
        clear hP hD hS
        clear H locs
        obtain ⟨g17, eg17⟩ : ∃ z : Nat → Int32, z = upd g11 v12.toNatClampNeg (vp_nar .byte v16) := ⟨_, rfl⟩
        rw [← eg17]
        intro H locs (hP : va_P G vwCl [(a_0, .inr (12, [.int i_1, .ref a_1, .ref a_2, .ref a_3, .ref a_4, .ref a_5, .int v12, .int i_3, .int i_4, .int i_5, .int i_6, .long j_0, .int i_7, .int i_8, .int i_9, .int i_10, .ref a_6, .ref a_7, .ref a_8, .ref a_9, .ref a_10, .ref a_11, .ref a_12, .ref a_13, .ref a_14, .ref a_15, .ref a_16, .ref a_17, .ref a_18, .int i_11, .int i_12, .int i_13, .int i_14, .int i_15, .int i_16, .ref a_19, .int i_17, .ref a_20])), (a_5, .inl (cy 0, 600, .inl g17))] H) (hD : va_D A [(a_0, .inr (12, [.int i_1, .ref a_1, .ref a_2, .ref a_3, .ref a_4, .ref a_5, .int v12, .int i_3, .int i_4, .int i_5, .int i_6, .long j_0, .int i_7, .int i_8, .int i_9, .int i_10, .ref a_6, .ref a_7, .ref a_8, .ref a_9, .ref a_10, .ref a_11, .ref a_12, .ref a_13, .ref a_14, .ref a_15, .ref a_16, .ref a_17, .ref a_18, .int i_11, .int i_12, .int i_13, .int i_14, .int i_15, .int i_16, .ref a_19, .int i_17, .ref a_20])), (a_5, .inl (cy 0, 600, .inl g17))]) hS
        have rg17 : mm_ar g17 (-128) 127 := by rw [eg17]; exact mm_ar_upd (mm_ar_wk rg11 (by decide)) (mm_nb _) _
        refine lv_aload_n hx hb dX12_four_20 rfl (lv_at hl 1 rfl) ?_
        refine lv_dup hx hb dX12_four_21 rfl ?_
        refine va_get (D := G) (ci := 12) (v := .int v12) (C := RX12) (T := TX12) (N := 38) hx hb hts (mm_i inlX12) hown hK.1 hP 0 rfl rfl 6 (by decide) (mm_h hts mm_w178) (fun _ h9 => h9) rfl dX12_four_22 ?_
        refine lv_iconst (v := 1) hx hb dX12_four_25 (by decide) ?_
        refine lv_iadd hx hb dX12_four_26 ?_
        refine lv_topi (fun v18 ev18 => ?_)
        have rv18 : mm_rg v18 7 587 := mm_add ev18 rv12 mm_k1 (by decide) (by decide)
        have tv18 := mm_addEc ev18 rv12 mm_k1 (by decide) (k := 1) (by decide)
        refine va_put (D := G) (ci := 12) (v := .int v18) (ty := tyX12 6) (C := RX12) (T := TX12) (N := 38) hx hb hts (mm_i inlX12) tyX12 tyX12_ok nmX12 hown hK.1 hP hD hS 0 rfl rfl 6 (by decide) (mm_h hts mm_w178) (fun _ h9 => h9) rfl (tyX12_ok 6 (by decide)) rfl rfl (Nat.le_of_ble_eq_true rfl) dX12_four_27 ?_
        clear hP hD hS
        clear H locs
        intro H locs (hP : va_P G vwCl [(a_0, .inr (12, [.int i_1, .ref a_1, .ref a_2, .ref a_3, .ref a_4, .ref a_5, .int v18, .int i_3, .int i_4, .int i_5, .int i_6, .long j_0, .int i_7, .int i_8, .int i_9, .int i_10, .ref a_6, .ref a_7, .ref a_8, .ref a_9, .ref a_10, .ref a_11, .ref a_12, .ref a_13, .ref a_14, .ref a_15, .ref a_16, .ref a_17, .ref a_18, .int i_11, .int i_12, .int i_13, .int i_14, .int i_15, .int i_16, .ref a_19, .int i_17, .ref a_20])), (a_5, .inl (cy 0, 600, .inl g17))] H) (hD : va_D A [(a_0, .inr (12, [.int i_1, .ref a_1, .ref a_2, .ref a_3, .ref a_4, .ref a_5, .int v18, .int i_3, .int i_4, .int i_5, .int i_6, .long j_0, .int i_7, .int i_8, .int i_9, .int i_10, .ref a_6, .ref a_7, .ref a_8, .ref a_9, .ref a_10, .ref a_11, .ref a_12, .ref a_13, .ref a_14, .ref a_15, .ref a_16, .ref a_17, .ref a_18, .int i_11, .int i_12, .int i_13, .int i_14, .int i_15, .int i_16, .ref a_19, .int i_17, .ref a_20])), (a_5, .inl (cy 0, 600, .inl g17))]) hS
        refine lv_iinc (v := 0) (lv' := [(2, .int 0), (0, .ref a_0), (1, .int i_0)]) hx hb dX12_four_30 hl (k := 0) rfl (by decide) (by decide) rfl ?_
        clear hl
        clear ls
        intro ls hl
        refine lv_goto (tgt := 3) hx hb dX12_four_33 (by decide) ?_
        refine lv_iload_n hx hb dX12_four_3 rfl (lv_at hl 0 rfl) ?_
        refine lv_if_lt (tgt := 36) hx hb dX12_four_4 (by decide) (fun c19 => ?_) (fun c19 => ?_)
        · have q20 := mm_ltL (h := (-1)) (mm_lt c19) mm_k0 mm_k0 (by decide)
          exact mm_no q20 (by decide)
        · refine lv_aload_n hx hb dX12_four_7 rfl (lv_at hl 1 rfl) ?_
          refine va_get (D := G) (ci := 12) (v := .ref a_5) (C := RX12) (T := TX12) (N := 38) hx hb hts (mm_i inlX12) hown hK.1 hP 0 rfl rfl 5 (by decide) (mm_h hts mm_w146) (fun _ h9 => h9) rfl dX12_four_8 ?_
          refine lv_aload_n hx hb dX12_four_11 rfl (lv_at hl 1 rfl) ?_
          refine va_get (D := G) (ci := 12) (v := .int v18) (C := RX12) (T := TX12) (N := 38) hx hb hts (mm_i inlX12) hown hK.1 hP 0 rfl rfl 6 (by decide) (mm_h hts mm_w178) (fun _ h9 => h9) rfl dX12_four_12 ?_
          refine lv_iload_n hx hb dX12_four_15 rfl (lv_at hl 2 rfl) ?_
          refine lv_iload_n hx hb dX12_four_16 rfl (lv_at hl 0 rfl) ?_
          refine lv_ishr hx hb dX12_four_17 ?_
          refine lv_topi (fun v21 ev21 => ?_)
          obtain ⟨v22, ev22⟩ : ∃ y : Int32, y = v21.toInt8.toInt32 := ⟨_, rfl⟩
          refine lv_i2b hx hb dX12_four_18 ev22.symm ?_
          have rv22 : mm_rg v22 (-128) 127 := mm_i2b ev22
          refine va_bast hx hb hK.1 hP hD hS 1 0 rfl rfl (mm_in rv18 (by decide)) dX12_four_19 ?_
          clear hP hD hS
          clear H locs
          obtain ⟨g23, eg23⟩ : ∃ z : Nat → Int32, z = upd g17 v18.toNatClampNeg (vp_nar .byte v22) := ⟨_, rfl⟩
          rw [← eg23]
          intro H locs (hP : va_P G vwCl [(a_0, .inr (12, [.int i_1, .ref a_1, .ref a_2, .ref a_3, .ref a_4, .ref a_5, .int v18, .int i_3, .int i_4, .int i_5, .int i_6, .long j_0, .int i_7, .int i_8, .int i_9, .int i_10, .ref a_6, .ref a_7, .ref a_8, .ref a_9, .ref a_10, .ref a_11, .ref a_12, .ref a_13, .ref a_14, .ref a_15, .ref a_16, .ref a_17, .ref a_18, .int i_11, .int i_12, .int i_13, .int i_14, .int i_15, .int i_16, .ref a_19, .int i_17, .ref a_20])), (a_5, .inl (cy 0, 600, .inl g23))] H) (hD : va_D A [(a_0, .inr (12, [.int i_1, .ref a_1, .ref a_2, .ref a_3, .ref a_4, .ref a_5, .int v18, .int i_3, .int i_4, .int i_5, .int i_6, .long j_0, .int i_7, .int i_8, .int i_9, .int i_10, .ref a_6, .ref a_7, .ref a_8, .ref a_9, .ref a_10, .ref a_11, .ref a_12, .ref a_13, .ref a_14, .ref a_15, .ref a_16, .ref a_17, .ref a_18, .int i_11, .int i_12, .int i_13, .int i_14, .int i_15, .int i_16, .ref a_19, .int i_17, .ref a_20])), (a_5, .inl (cy 0, 600, .inl g23))]) hS
          have rg23 : mm_ar g23 (-128) 127 := by rw [eg23]; exact mm_ar_upd (mm_ar_wk rg17 (by decide)) (mm_nb _) _
          refine lv_aload_n hx hb dX12_four_20 rfl (lv_at hl 1 rfl) ?_
          refine lv_dup hx hb dX12_four_21 rfl ?_
          refine va_get (D := G) (ci := 12) (v := .int v18) (C := RX12) (T := TX12) (N := 38) hx hb hts (mm_i inlX12) hown hK.1 hP 0 rfl rfl 6 (by decide) (mm_h hts mm_w178) (fun _ h9 => h9) rfl dX12_four_22 ?_
          refine lv_iconst (v := 1) hx hb dX12_four_25 (by decide) ?_
          refine lv_iadd hx hb dX12_four_26 ?_
          refine lv_topi (fun v24 ev24 => ?_)
          have rv24 : mm_rg v24 8 588 := mm_add ev24 rv18 mm_k1 (by decide) (by decide)
          have tv24 := mm_addEc ev24 rv18 mm_k1 (by decide) (k := 1) (by decide)
          refine va_put (D := G) (ci := 12) (v := .int v24) (ty := tyX12 6) (C := RX12) (T := TX12) (N := 38) hx hb hts (mm_i inlX12) tyX12 tyX12_ok nmX12 hown hK.1 hP hD hS 0 rfl rfl 6 (by decide) (mm_h hts mm_w178) (fun _ h9 => h9) rfl (tyX12_ok 6 (by decide)) rfl rfl (Nat.le_of_ble_eq_true rfl) dX12_four_27 ?_
          clear hP hD hS
          clear H locs
          intro H locs (hP : va_P G vwCl [(a_0, .inr (12, [.int i_1, .ref a_1, .ref a_2, .ref a_3, .ref a_4, .ref a_5, .int v24, .int i_3, .int i_4, .int i_5, .int i_6, .long j_0, .int i_7, .int i_8, .int i_9, .int i_10, .ref a_6, .ref a_7, .ref a_8, .ref a_9, .ref a_10, .ref a_11, .ref a_12, .ref a_13, .ref a_14, .ref a_15, .ref a_16, .ref a_17, .ref a_18, .int i_11, .int i_12, .int i_13, .int i_14, .int i_15, .int i_16, .ref a_19, .int i_17, .ref a_20])), (a_5, .inl (cy 0, 600, .inl g23))] H) (hD : va_D A [(a_0, .inr (12, [.int i_1, .ref a_1, .ref a_2, .ref a_3, .ref a_4, .ref a_5, .int v24, .int i_3, .int i_4, .int i_5, .int i_6, .long j_0, .int i_7, .int i_8, .int i_9, .int i_10, .ref a_6, .ref a_7, .ref a_8, .ref a_9, .ref a_10, .ref a_11, .ref a_12, .ref a_13, .ref a_14, .ref a_15, .ref a_16, .ref a_17, .ref a_18, .int i_11, .int i_12, .int i_13, .int i_14, .int i_15, .int i_16, .ref a_19, .int i_17, .ref a_20])), (a_5, .inl (cy 0, 600, .inl g23))]) hS
          refine lv_iinc (v := (-8)) (lv' := [(2, .int (-8)), (0, .ref a_0), (1, .int i_0)]) hx hb dX12_four_30 hl (k := 0) rfl (by decide) (by decide) rfl ?_
          clear hl
          clear ls
          intro ls hl
          refine lv_goto (tgt := 3) hx hb dX12_four_33 (by decide) ?_
          refine lv_iload_n hx hb dX12_four_3 rfl (lv_at hl 0 rfl) ?_
          refine lv_if_lt (tgt := 36) hx hb dX12_four_4 (by decide) (fun c25 => ?_) (fun c25 => ?_)
          · subst hAe
            rw [hQ]
            exact W.vret hx hb hr (fun t ht hW => ⟨⟨(v24, g23), rfl, ⟨rv24, rg23⟩, by rw [ht]; exact hP, hK.warm hW, hD⟩, hS.F ht⟩) hS.2.2 dX12_four_36
          · have q26 := mm_leL (mm_nlt c25) mm_k0 mm_km8
            exact mm_no q26 (by decide)

set_option maxHeartbeats 4000000 in
set_option maxRecDepth 100000 in
theorem M3_X12_four (l : Launch) (G : va_G) (cy : Nat → ClassId) (sz : Nat) (a_0 : Nat) (i_0 : Int32) (i_1 : Int32) (a_1 : Nat) (a_2 : Nat) (a_3 : Nat) (a_4 : Nat) (a_5 : Nat) (i_2 : Int32) (i_3 : Int32) (i_4 : Int32) (i_5 : Int32) (i_6 : Int32) (j_0 : Int64) (i_7 : Int32) (i_8 : Int32) (i_9 : Int32) (i_10 : Int32) (a_6 : Nat) (a_7 : Nat) (a_8 : Nat) (a_9 : Nat) (a_10 : Nat) (a_11 : Nat) (a_12 : Nat) (a_13 : Nat) (a_14 : Nat) (a_15 : Nat) (a_16 : Nat) (a_17 : Nat) (a_18 : Nat) (i_11 : Int32) (i_12 : Int32) (i_13 : Int32) (i_14 : Int32) (i_15 : Int32) (i_16 : Int32) (a_19 : Nat) (i_17 : Int32) (a_20 : Nat) (f_0 : Nat → Int32) (h0 : mm_rg i_2 8 588) (h1 : mm_ar f_0 (-128) 127)  : mm_CV l yX12_four (mm_ws yX12_four cX12_four 3 (none)) ({ frames := 0, cells := 0, slots := 0, locals := 0 } : Room) G cy sz [(a_0, .inr (12, [.int i_1, .ref a_1, .ref a_2, .ref a_3, .ref a_4, .ref a_5, .int i_2, .int i_3, .int i_4, .int i_5, .int i_6, .long j_0, .int i_7, .int i_8, .int i_9, .int i_10, .ref a_6, .ref a_7, .ref a_8, .ref a_9, .ref a_10, .ref a_11, .ref a_12, .ref a_13, .ref a_14, .ref a_15, .ref a_16, .ref a_17, .ref a_18, .int i_11, .int i_12, .int i_13, .int i_14, .int i_15, .int i_16, .ref a_19, .int i_17, .ref a_20])), (a_5, .inl (cy 0, 600, .inl f_0))] [.ref a_0, .int i_0] (fun u : Int32 × (Nat → Int32) => [(a_0, .inr (12, [.int i_1, .ref a_1, .ref a_2, .ref a_3, .ref a_4, .ref a_5, .int u.1, .int i_3, .int i_4, .int i_5, .int i_6, .long j_0, .int i_7, .int i_8, .int i_9, .int i_10, .ref a_6, .ref a_7, .ref a_8, .ref a_9, .ref a_10, .ref a_11, .ref a_12, .ref a_13, .ref a_14, .ref a_15, .ref a_16, .ref a_17, .ref a_18, .int i_11, .int i_12, .int i_13, .int i_14, .int i_15, .int i_16, .ref a_19, .int i_17, .ref a_20])), (a_5, .inl (cy 0, 600, .inl u.2))]) (fun u : Int32 × (Nat → Int32) => mm_rg u.1 12 592 ∧ mm_ar u.2 (-128) 127) 0 0 := by
  refine mm_begin (lv := [(0, .ref a_0), (1, .int i_0)]) (by decide) (Nat.le_of_ble_eq_true rfl) rfl ?_
  intro p e s m below meth c A ls R args Q H locs hRe hQ hAe hx hb hr hlocks hml hown hnm hts hsz hA hS hP hK hD hZ hl
  have hRf : R.frames = 0 := by rw [hRe]
  have hRl : R.locals = 0 := by rw [hRe]
  have hRc : R.cells = 0 := by rw [hRe]
  have hRs : R.slots = 0 := by rw [hRe]
  refine lv_bipush (v := 24) hx hb dX12_four_0 (by decide) ?_
  refine lv_istore_n (lv' := [(2, .int 24), (0, .ref a_0), (1, .int i_0)]) hx hb dX12_four_2 rfl hl (by decide) rfl ?_
  clear hl
  clear ls
  intro ls hl
  refine lv_iload_n hx hb dX12_four_3 rfl (lv_at hl 0 rfl) ?_
  refine lv_if_lt (tgt := 36) hx hb dX12_four_4 (by decide) (fun c1 => ?_) (fun c1 => ?_)
  · have q2 := mm_ltL (h := (-1)) (mm_lt c1) mm_k24 mm_k0 (by decide)
    exact mm_no q2 (by decide)
  · refine lv_aload_n hx hb dX12_four_7 rfl (lv_at hl 1 rfl) ?_
    refine va_get (D := G) (ci := 12) (v := .ref a_5) (C := RX12) (T := TX12) (N := 38) hx hb hts (mm_i inlX12) hown hK.1 hP 0 rfl rfl 5 (by decide) (mm_h hts mm_w146) (fun _ h9 => h9) rfl dX12_four_8 ?_
    refine lv_aload_n hx hb dX12_four_11 rfl (lv_at hl 1 rfl) ?_
    refine va_get (D := G) (ci := 12) (v := .int i_2) (C := RX12) (T := TX12) (N := 38) hx hb hts (mm_i inlX12) hown hK.1 hP 0 rfl rfl 6 (by decide) (mm_h hts mm_w178) (fun _ h9 => h9) rfl dX12_four_12 ?_
    refine lv_iload_n hx hb dX12_four_15 rfl (lv_at hl 2 rfl) ?_
    refine lv_iload_n hx hb dX12_four_16 rfl (lv_at hl 0 rfl) ?_
    refine lv_ishr hx hb dX12_four_17 ?_
    refine lv_topi (fun v3 ev3 => ?_)
    obtain ⟨v4, ev4⟩ : ∃ y : Int32, y = v3.toInt8.toInt32 := ⟨_, rfl⟩
    refine lv_i2b hx hb dX12_four_18 ev4.symm ?_
    have rv4 : mm_rg v4 (-128) 127 := mm_i2b ev4
    refine va_bast hx hb hK.1 hP hD hS 1 0 rfl rfl (mm_in h0 (by decide)) dX12_four_19 ?_
    clear hP hD hS
    clear H locs
    obtain ⟨g5, eg5⟩ : ∃ z : Nat → Int32, z = upd f_0 i_2.toNatClampNeg (vp_nar .byte v4) := ⟨_, rfl⟩
    rw [← eg5]
    intro H locs (hP : va_P G vwCl [(a_0, .inr (12, [.int i_1, .ref a_1, .ref a_2, .ref a_3, .ref a_4, .ref a_5, .int i_2, .int i_3, .int i_4, .int i_5, .int i_6, .long j_0, .int i_7, .int i_8, .int i_9, .int i_10, .ref a_6, .ref a_7, .ref a_8, .ref a_9, .ref a_10, .ref a_11, .ref a_12, .ref a_13, .ref a_14, .ref a_15, .ref a_16, .ref a_17, .ref a_18, .int i_11, .int i_12, .int i_13, .int i_14, .int i_15, .int i_16, .ref a_19, .int i_17, .ref a_20])), (a_5, .inl (cy 0, 600, .inl g5))] H) (hD : va_D A [(a_0, .inr (12, [.int i_1, .ref a_1, .ref a_2, .ref a_3, .ref a_4, .ref a_5, .int i_2, .int i_3, .int i_4, .int i_5, .int i_6, .long j_0, .int i_7, .int i_8, .int i_9, .int i_10, .ref a_6, .ref a_7, .ref a_8, .ref a_9, .ref a_10, .ref a_11, .ref a_12, .ref a_13, .ref a_14, .ref a_15, .ref a_16, .ref a_17, .ref a_18, .int i_11, .int i_12, .int i_13, .int i_14, .int i_15, .int i_16, .ref a_19, .int i_17, .ref a_20])), (a_5, .inl (cy 0, 600, .inl g5))]) hS
    have rg5 : mm_ar g5 (-128) 127 := by rw [eg5]; exact mm_ar_upd (mm_ar_wk h1 (by decide)) (mm_nb _) _
    refine lv_aload_n hx hb dX12_four_20 rfl (lv_at hl 1 rfl) ?_
    refine lv_dup hx hb dX12_four_21 rfl ?_
    refine va_get (D := G) (ci := 12) (v := .int i_2) (C := RX12) (T := TX12) (N := 38) hx hb hts (mm_i inlX12) hown hK.1 hP 0 rfl rfl 6 (by decide) (mm_h hts mm_w178) (fun _ h9 => h9) rfl dX12_four_22 ?_
    refine lv_iconst (v := 1) hx hb dX12_four_25 (by decide) ?_
    refine lv_iadd hx hb dX12_four_26 ?_
    refine lv_topi (fun v6 ev6 => ?_)
    have rv6 : mm_rg v6 9 589 := mm_add ev6 h0 mm_k1 (by decide) (by decide)
    have tv6 := mm_addEc ev6 h0 mm_k1 (by decide) (k := 1) (by decide)
    refine va_put (D := G) (ci := 12) (v := .int v6) (ty := tyX12 6) (C := RX12) (T := TX12) (N := 38) hx hb hts (mm_i inlX12) tyX12 tyX12_ok nmX12 hown hK.1 hP hD hS 0 rfl rfl 6 (by decide) (mm_h hts mm_w178) (fun _ h9 => h9) rfl (tyX12_ok 6 (by decide)) rfl rfl (Nat.le_of_ble_eq_true rfl) dX12_four_27 ?_
    clear hP hD hS
    clear H locs
    intro H locs (hP : va_P G vwCl [(a_0, .inr (12, [.int i_1, .ref a_1, .ref a_2, .ref a_3, .ref a_4, .ref a_5, .int v6, .int i_3, .int i_4, .int i_5, .int i_6, .long j_0, .int i_7, .int i_8, .int i_9, .int i_10, .ref a_6, .ref a_7, .ref a_8, .ref a_9, .ref a_10, .ref a_11, .ref a_12, .ref a_13, .ref a_14, .ref a_15, .ref a_16, .ref a_17, .ref a_18, .int i_11, .int i_12, .int i_13, .int i_14, .int i_15, .int i_16, .ref a_19, .int i_17, .ref a_20])), (a_5, .inl (cy 0, 600, .inl g5))] H) (hD : va_D A [(a_0, .inr (12, [.int i_1, .ref a_1, .ref a_2, .ref a_3, .ref a_4, .ref a_5, .int v6, .int i_3, .int i_4, .int i_5, .int i_6, .long j_0, .int i_7, .int i_8, .int i_9, .int i_10, .ref a_6, .ref a_7, .ref a_8, .ref a_9, .ref a_10, .ref a_11, .ref a_12, .ref a_13, .ref a_14, .ref a_15, .ref a_16, .ref a_17, .ref a_18, .int i_11, .int i_12, .int i_13, .int i_14, .int i_15, .int i_16, .ref a_19, .int i_17, .ref a_20])), (a_5, .inl (cy 0, 600, .inl g5))]) hS
    refine lv_iinc (v := 16) (lv' := [(2, .int 16), (0, .ref a_0), (1, .int i_0)]) hx hb dX12_four_30 hl (k := 0) rfl (by decide) (by decide) rfl ?_
    clear hl
    clear ls
    intro ls hl
    refine lv_goto (tgt := 3) hx hb dX12_four_33 (by decide) ?_
    refine lv_iload_n hx hb dX12_four_3 rfl (lv_at hl 0 rfl) ?_
    refine lv_if_lt (tgt := 36) hx hb dX12_four_4 (by decide) (fun c7 => ?_) (fun c7 => ?_)
    · have q8 := mm_ltL (h := (-1)) (mm_lt c7) mm_k16 mm_k0 (by decide)
      exact mm_no q8 (by decide)
    · refine lv_aload_n hx hb dX12_four_7 rfl (lv_at hl 1 rfl) ?_
      refine va_get (D := G) (ci := 12) (v := .ref a_5) (C := RX12) (T := TX12) (N := 38) hx hb hts (mm_i inlX12) hown hK.1 hP 0 rfl rfl 5 (by decide) (mm_h hts mm_w146) (fun _ h9 => h9) rfl dX12_four_8 ?_
      refine lv_aload_n hx hb dX12_four_11 rfl (lv_at hl 1 rfl) ?_
      refine va_get (D := G) (ci := 12) (v := .int v6) (C := RX12) (T := TX12) (N := 38) hx hb hts (mm_i inlX12) hown hK.1 hP 0 rfl rfl 6 (by decide) (mm_h hts mm_w178) (fun _ h9 => h9) rfl dX12_four_12 ?_
      refine lv_iload_n hx hb dX12_four_15 rfl (lv_at hl 2 rfl) ?_
      refine lv_iload_n hx hb dX12_four_16 rfl (lv_at hl 0 rfl) ?_
      refine lv_ishr hx hb dX12_four_17 ?_
      refine lv_topi (fun v9 ev9 => ?_)
      obtain ⟨v10, ev10⟩ : ∃ y : Int32, y = v9.toInt8.toInt32 := ⟨_, rfl⟩
      refine lv_i2b hx hb dX12_four_18 ev10.symm ?_
      have rv10 : mm_rg v10 (-128) 127 := mm_i2b ev10
      refine va_bast hx hb hK.1 hP hD hS 1 0 rfl rfl (mm_in rv6 (by decide)) dX12_four_19 ?_
      clear hP hD hS
      clear H locs
      obtain ⟨g11, eg11⟩ : ∃ z : Nat → Int32, z = upd g5 v6.toNatClampNeg (vp_nar .byte v10) := ⟨_, rfl⟩
      rw [← eg11]
      intro H locs (hP : va_P G vwCl [(a_0, .inr (12, [.int i_1, .ref a_1, .ref a_2, .ref a_3, .ref a_4, .ref a_5, .int v6, .int i_3, .int i_4, .int i_5, .int i_6, .long j_0, .int i_7, .int i_8, .int i_9, .int i_10, .ref a_6, .ref a_7, .ref a_8, .ref a_9, .ref a_10, .ref a_11, .ref a_12, .ref a_13, .ref a_14, .ref a_15, .ref a_16, .ref a_17, .ref a_18, .int i_11, .int i_12, .int i_13, .int i_14, .int i_15, .int i_16, .ref a_19, .int i_17, .ref a_20])), (a_5, .inl (cy 0, 600, .inl g11))] H) (hD : va_D A [(a_0, .inr (12, [.int i_1, .ref a_1, .ref a_2, .ref a_3, .ref a_4, .ref a_5, .int v6, .int i_3, .int i_4, .int i_5, .int i_6, .long j_0, .int i_7, .int i_8, .int i_9, .int i_10, .ref a_6, .ref a_7, .ref a_8, .ref a_9, .ref a_10, .ref a_11, .ref a_12, .ref a_13, .ref a_14, .ref a_15, .ref a_16, .ref a_17, .ref a_18, .int i_11, .int i_12, .int i_13, .int i_14, .int i_15, .int i_16, .ref a_19, .int i_17, .ref a_20])), (a_5, .inl (cy 0, 600, .inl g11))]) hS
      have rg11 : mm_ar g11 (-128) 127 := by rw [eg11]; exact mm_ar_upd (mm_ar_wk rg5 (by decide)) (mm_nb _) _
      refine lv_aload_n hx hb dX12_four_20 rfl (lv_at hl 1 rfl) ?_
      refine lv_dup hx hb dX12_four_21 rfl ?_
      refine va_get (D := G) (ci := 12) (v := .int v6) (C := RX12) (T := TX12) (N := 38) hx hb hts (mm_i inlX12) hown hK.1 hP 0 rfl rfl 6 (by decide) (mm_h hts mm_w178) (fun _ h9 => h9) rfl dX12_four_22 ?_
      refine lv_iconst (v := 1) hx hb dX12_four_25 (by decide) ?_
      refine lv_iadd hx hb dX12_four_26 ?_
      refine lv_topi (fun v12 ev12 => ?_)
      have rv12 : mm_rg v12 10 590 := mm_add ev12 rv6 mm_k1 (by decide) (by decide)
      have tv12 := mm_addEc ev12 rv6 mm_k1 (by decide) (k := 1) (by decide)
      refine va_put (D := G) (ci := 12) (v := .int v12) (ty := tyX12 6) (C := RX12) (T := TX12) (N := 38) hx hb hts (mm_i inlX12) tyX12 tyX12_ok nmX12 hown hK.1 hP hD hS 0 rfl rfl 6 (by decide) (mm_h hts mm_w178) (fun _ h9 => h9) rfl (tyX12_ok 6 (by decide)) rfl rfl (Nat.le_of_ble_eq_true rfl) dX12_four_27 ?_
      clear hP hD hS
      clear H locs
      intro H locs (hP : va_P G vwCl [(a_0, .inr (12, [.int i_1, .ref a_1, .ref a_2, .ref a_3, .ref a_4, .ref a_5, .int v12, .int i_3, .int i_4, .int i_5, .int i_6, .long j_0, .int i_7, .int i_8, .int i_9, .int i_10, .ref a_6, .ref a_7, .ref a_8, .ref a_9, .ref a_10, .ref a_11, .ref a_12, .ref a_13, .ref a_14, .ref a_15, .ref a_16, .ref a_17, .ref a_18, .int i_11, .int i_12, .int i_13, .int i_14, .int i_15, .int i_16, .ref a_19, .int i_17, .ref a_20])), (a_5, .inl (cy 0, 600, .inl g11))] H) (hD : va_D A [(a_0, .inr (12, [.int i_1, .ref a_1, .ref a_2, .ref a_3, .ref a_4, .ref a_5, .int v12, .int i_3, .int i_4, .int i_5, .int i_6, .long j_0, .int i_7, .int i_8, .int i_9, .int i_10, .ref a_6, .ref a_7, .ref a_8, .ref a_9, .ref a_10, .ref a_11, .ref a_12, .ref a_13, .ref a_14, .ref a_15, .ref a_16, .ref a_17, .ref a_18, .int i_11, .int i_12, .int i_13, .int i_14, .int i_15, .int i_16, .ref a_19, .int i_17, .ref a_20])), (a_5, .inl (cy 0, 600, .inl g11))]) hS
      refine lv_iinc (v := 8) (lv' := [(2, .int 8), (0, .ref a_0), (1, .int i_0)]) hx hb dX12_four_30 hl (k := 0) rfl (by decide) (by decide) rfl ?_
      clear hl
      clear ls
      intro ls hl
      refine lv_goto (tgt := 3) hx hb dX12_four_33 (by decide) ?_
      refine lv_iload_n hx hb dX12_four_3 rfl (lv_at hl 0 rfl) ?_
      refine lv_if_lt (tgt := 36) hx hb dX12_four_4 (by decide) (fun c13 => ?_) (fun c13 => ?_)
      · have q14 := mm_ltL (h := (-1)) (mm_lt c13) mm_k8 mm_k0 (by decide)
        exact mm_no q14 (by decide)
      · refine lv_aload_n hx hb dX12_four_7 rfl (lv_at hl 1 rfl) ?_
        refine va_get (D := G) (ci := 12) (v := .ref a_5) (C := RX12) (T := TX12) (N := 38) hx hb hts (mm_i inlX12) hown hK.1 hP 0 rfl rfl 5 (by decide) (mm_h hts mm_w146) (fun _ h9 => h9) rfl dX12_four_8 ?_
        refine lv_aload_n hx hb dX12_four_11 rfl (lv_at hl 1 rfl) ?_
        refine va_get (D := G) (ci := 12) (v := .int v12) (C := RX12) (T := TX12) (N := 38) hx hb hts (mm_i inlX12) hown hK.1 hP 0 rfl rfl 6 (by decide) (mm_h hts mm_w178) (fun _ h9 => h9) rfl dX12_four_12 ?_
        refine lv_iload_n hx hb dX12_four_15 rfl (lv_at hl 2 rfl) ?_
        refine lv_iload_n hx hb dX12_four_16 rfl (lv_at hl 0 rfl) ?_
        refine lv_ishr hx hb dX12_four_17 ?_
        refine lv_topi (fun v15 ev15 => ?_)
        obtain ⟨v16, ev16⟩ : ∃ y : Int32, y = v15.toInt8.toInt32 := ⟨_, rfl⟩
        refine lv_i2b hx hb dX12_four_18 ev16.symm ?_
        have rv16 : mm_rg v16 (-128) 127 := mm_i2b ev16
        refine va_bast hx hb hK.1 hP hD hS 1 0 rfl rfl (mm_in rv12 (by decide)) dX12_four_19 ?_
        clear hP hD hS
        clear H locs
        obtain ⟨g17, eg17⟩ : ∃ z : Nat → Int32, z = upd g11 v12.toNatClampNeg (vp_nar .byte v16) := ⟨_, rfl⟩
        rw [← eg17]
        intro H locs (hP : va_P G vwCl [(a_0, .inr (12, [.int i_1, .ref a_1, .ref a_2, .ref a_3, .ref a_4, .ref a_5, .int v12, .int i_3, .int i_4, .int i_5, .int i_6, .long j_0, .int i_7, .int i_8, .int i_9, .int i_10, .ref a_6, .ref a_7, .ref a_8, .ref a_9, .ref a_10, .ref a_11, .ref a_12, .ref a_13, .ref a_14, .ref a_15, .ref a_16, .ref a_17, .ref a_18, .int i_11, .int i_12, .int i_13, .int i_14, .int i_15, .int i_16, .ref a_19, .int i_17, .ref a_20])), (a_5, .inl (cy 0, 600, .inl g17))] H) (hD : va_D A [(a_0, .inr (12, [.int i_1, .ref a_1, .ref a_2, .ref a_3, .ref a_4, .ref a_5, .int v12, .int i_3, .int i_4, .int i_5, .int i_6, .long j_0, .int i_7, .int i_8, .int i_9, .int i_10, .ref a_6, .ref a_7, .ref a_8, .ref a_9, .ref a_10, .ref a_11, .ref a_12, .ref a_13, .ref a_14, .ref a_15, .ref a_16, .ref a_17, .ref a_18, .int i_11, .int i_12, .int i_13, .int i_14, .int i_15, .int i_16, .ref a_19, .int i_17, .ref a_20])), (a_5, .inl (cy 0, 600, .inl g17))]) hS
        have rg17 : mm_ar g17 (-128) 127 := by rw [eg17]; exact mm_ar_upd (mm_ar_wk rg11 (by decide)) (mm_nb _) _
        refine lv_aload_n hx hb dX12_four_20 rfl (lv_at hl 1 rfl) ?_
        refine lv_dup hx hb dX12_four_21 rfl ?_
        refine va_get (D := G) (ci := 12) (v := .int v12) (C := RX12) (T := TX12) (N := 38) hx hb hts (mm_i inlX12) hown hK.1 hP 0 rfl rfl 6 (by decide) (mm_h hts mm_w178) (fun _ h9 => h9) rfl dX12_four_22 ?_
        refine lv_iconst (v := 1) hx hb dX12_four_25 (by decide) ?_
        refine lv_iadd hx hb dX12_four_26 ?_
        refine lv_topi (fun v18 ev18 => ?_)
        have rv18 : mm_rg v18 11 591 := mm_add ev18 rv12 mm_k1 (by decide) (by decide)
        have tv18 := mm_addEc ev18 rv12 mm_k1 (by decide) (k := 1) (by decide)
        refine va_put (D := G) (ci := 12) (v := .int v18) (ty := tyX12 6) (C := RX12) (T := TX12) (N := 38) hx hb hts (mm_i inlX12) tyX12 tyX12_ok nmX12 hown hK.1 hP hD hS 0 rfl rfl 6 (by decide) (mm_h hts mm_w178) (fun _ h9 => h9) rfl (tyX12_ok 6 (by decide)) rfl rfl (Nat.le_of_ble_eq_true rfl) dX12_four_27 ?_
        clear hP hD hS
        clear H locs
        intro H locs (hP : va_P G vwCl [(a_0, .inr (12, [.int i_1, .ref a_1, .ref a_2, .ref a_3, .ref a_4, .ref a_5, .int v18, .int i_3, .int i_4, .int i_5, .int i_6, .long j_0, .int i_7, .int i_8, .int i_9, .int i_10, .ref a_6, .ref a_7, .ref a_8, .ref a_9, .ref a_10, .ref a_11, .ref a_12, .ref a_13, .ref a_14, .ref a_15, .ref a_16, .ref a_17, .ref a_18, .int i_11, .int i_12, .int i_13, .int i_14, .int i_15, .int i_16, .ref a_19, .int i_17, .ref a_20])), (a_5, .inl (cy 0, 600, .inl g17))] H) (hD : va_D A [(a_0, .inr (12, [.int i_1, .ref a_1, .ref a_2, .ref a_3, .ref a_4, .ref a_5, .int v18, .int i_3, .int i_4, .int i_5, .int i_6, .long j_0, .int i_7, .int i_8, .int i_9, .int i_10, .ref a_6, .ref a_7, .ref a_8, .ref a_9, .ref a_10, .ref a_11, .ref a_12, .ref a_13, .ref a_14, .ref a_15, .ref a_16, .ref a_17, .ref a_18, .int i_11, .int i_12, .int i_13, .int i_14, .int i_15, .int i_16, .ref a_19, .int i_17, .ref a_20])), (a_5, .inl (cy 0, 600, .inl g17))]) hS
        refine lv_iinc (v := 0) (lv' := [(2, .int 0), (0, .ref a_0), (1, .int i_0)]) hx hb dX12_four_30 hl (k := 0) rfl (by decide) (by decide) rfl ?_
        clear hl
        clear ls
        intro ls hl
        refine lv_goto (tgt := 3) hx hb dX12_four_33 (by decide) ?_
        refine lv_iload_n hx hb dX12_four_3 rfl (lv_at hl 0 rfl) ?_
        refine lv_if_lt (tgt := 36) hx hb dX12_four_4 (by decide) (fun c19 => ?_) (fun c19 => ?_)
        · have q20 := mm_ltL (h := (-1)) (mm_lt c19) mm_k0 mm_k0 (by decide)
          exact mm_no q20 (by decide)
        · refine lv_aload_n hx hb dX12_four_7 rfl (lv_at hl 1 rfl) ?_
          refine va_get (D := G) (ci := 12) (v := .ref a_5) (C := RX12) (T := TX12) (N := 38) hx hb hts (mm_i inlX12) hown hK.1 hP 0 rfl rfl 5 (by decide) (mm_h hts mm_w146) (fun _ h9 => h9) rfl dX12_four_8 ?_
          refine lv_aload_n hx hb dX12_four_11 rfl (lv_at hl 1 rfl) ?_
          refine va_get (D := G) (ci := 12) (v := .int v18) (C := RX12) (T := TX12) (N := 38) hx hb hts (mm_i inlX12) hown hK.1 hP 0 rfl rfl 6 (by decide) (mm_h hts mm_w178) (fun _ h9 => h9) rfl dX12_four_12 ?_
          refine lv_iload_n hx hb dX12_four_15 rfl (lv_at hl 2 rfl) ?_
          refine lv_iload_n hx hb dX12_four_16 rfl (lv_at hl 0 rfl) ?_
          refine lv_ishr hx hb dX12_four_17 ?_
          refine lv_topi (fun v21 ev21 => ?_)
          obtain ⟨v22, ev22⟩ : ∃ y : Int32, y = v21.toInt8.toInt32 := ⟨_, rfl⟩
          refine lv_i2b hx hb dX12_four_18 ev22.symm ?_
          have rv22 : mm_rg v22 (-128) 127 := mm_i2b ev22
          refine va_bast hx hb hK.1 hP hD hS 1 0 rfl rfl (mm_in rv18 (by decide)) dX12_four_19 ?_
          clear hP hD hS
          clear H locs
          obtain ⟨g23, eg23⟩ : ∃ z : Nat → Int32, z = upd g17 v18.toNatClampNeg (vp_nar .byte v22) := ⟨_, rfl⟩
          rw [← eg23]
          intro H locs (hP : va_P G vwCl [(a_0, .inr (12, [.int i_1, .ref a_1, .ref a_2, .ref a_3, .ref a_4, .ref a_5, .int v18, .int i_3, .int i_4, .int i_5, .int i_6, .long j_0, .int i_7, .int i_8, .int i_9, .int i_10, .ref a_6, .ref a_7, .ref a_8, .ref a_9, .ref a_10, .ref a_11, .ref a_12, .ref a_13, .ref a_14, .ref a_15, .ref a_16, .ref a_17, .ref a_18, .int i_11, .int i_12, .int i_13, .int i_14, .int i_15, .int i_16, .ref a_19, .int i_17, .ref a_20])), (a_5, .inl (cy 0, 600, .inl g23))] H) (hD : va_D A [(a_0, .inr (12, [.int i_1, .ref a_1, .ref a_2, .ref a_3, .ref a_4, .ref a_5, .int v18, .int i_3, .int i_4, .int i_5, .int i_6, .long j_0, .int i_7, .int i_8, .int i_9, .int i_10, .ref a_6, .ref a_7, .ref a_8, .ref a_9, .ref a_10, .ref a_11, .ref a_12, .ref a_13, .ref a_14, .ref a_15, .ref a_16, .ref a_17, .ref a_18, .int i_11, .int i_12, .int i_13, .int i_14, .int i_15, .int i_16, .ref a_19, .int i_17, .ref a_20])), (a_5, .inl (cy 0, 600, .inl g23))]) hS
          have rg23 : mm_ar g23 (-128) 127 := by rw [eg23]; exact mm_ar_upd (mm_ar_wk rg17 (by decide)) (mm_nb _) _
          refine lv_aload_n hx hb dX12_four_20 rfl (lv_at hl 1 rfl) ?_
          refine lv_dup hx hb dX12_four_21 rfl ?_
          refine va_get (D := G) (ci := 12) (v := .int v18) (C := RX12) (T := TX12) (N := 38) hx hb hts (mm_i inlX12) hown hK.1 hP 0 rfl rfl 6 (by decide) (mm_h hts mm_w178) (fun _ h9 => h9) rfl dX12_four_22 ?_
          refine lv_iconst (v := 1) hx hb dX12_four_25 (by decide) ?_
          refine lv_iadd hx hb dX12_four_26 ?_
          refine lv_topi (fun v24 ev24 => ?_)
          have rv24 : mm_rg v24 12 592 := mm_add ev24 rv18 mm_k1 (by decide) (by decide)
          have tv24 := mm_addEc ev24 rv18 mm_k1 (by decide) (k := 1) (by decide)
          refine va_put (D := G) (ci := 12) (v := .int v24) (ty := tyX12 6) (C := RX12) (T := TX12) (N := 38) hx hb hts (mm_i inlX12) tyX12 tyX12_ok nmX12 hown hK.1 hP hD hS 0 rfl rfl 6 (by decide) (mm_h hts mm_w178) (fun _ h9 => h9) rfl (tyX12_ok 6 (by decide)) rfl rfl (Nat.le_of_ble_eq_true rfl) dX12_four_27 ?_
          clear hP hD hS
          clear H locs
          intro H locs (hP : va_P G vwCl [(a_0, .inr (12, [.int i_1, .ref a_1, .ref a_2, .ref a_3, .ref a_4, .ref a_5, .int v24, .int i_3, .int i_4, .int i_5, .int i_6, .long j_0, .int i_7, .int i_8, .int i_9, .int i_10, .ref a_6, .ref a_7, .ref a_8, .ref a_9, .ref a_10, .ref a_11, .ref a_12, .ref a_13, .ref a_14, .ref a_15, .ref a_16, .ref a_17, .ref a_18, .int i_11, .int i_12, .int i_13, .int i_14, .int i_15, .int i_16, .ref a_19, .int i_17, .ref a_20])), (a_5, .inl (cy 0, 600, .inl g23))] H) (hD : va_D A [(a_0, .inr (12, [.int i_1, .ref a_1, .ref a_2, .ref a_3, .ref a_4, .ref a_5, .int v24, .int i_3, .int i_4, .int i_5, .int i_6, .long j_0, .int i_7, .int i_8, .int i_9, .int i_10, .ref a_6, .ref a_7, .ref a_8, .ref a_9, .ref a_10, .ref a_11, .ref a_12, .ref a_13, .ref a_14, .ref a_15, .ref a_16, .ref a_17, .ref a_18, .int i_11, .int i_12, .int i_13, .int i_14, .int i_15, .int i_16, .ref a_19, .int i_17, .ref a_20])), (a_5, .inl (cy 0, 600, .inl g23))]) hS
          refine lv_iinc (v := (-8)) (lv' := [(2, .int (-8)), (0, .ref a_0), (1, .int i_0)]) hx hb dX12_four_30 hl (k := 0) rfl (by decide) (by decide) rfl ?_
          clear hl
          clear ls
          intro ls hl
          refine lv_goto (tgt := 3) hx hb dX12_four_33 (by decide) ?_
          refine lv_iload_n hx hb dX12_four_3 rfl (lv_at hl 0 rfl) ?_
          refine lv_if_lt (tgt := 36) hx hb dX12_four_4 (by decide) (fun c25 => ?_) (fun c25 => ?_)
          · subst hAe
            rw [hQ]
            exact W.vret hx hb hr (fun t ht hW => ⟨⟨(v24, g23), rfl, ⟨rv24, rg23⟩, by rw [ht]; exact hP, hK.warm hW, hD⟩, hS.F ht⟩) hS.2.2 dX12_four_36
          · have q26 := mm_leL (mm_nlt c25) mm_k0 mm_km8
            exact mm_no q26 (by decide)

set_option maxHeartbeats 4000000 in
set_option maxRecDepth 100000 in
theorem M4_X12_four (l : Launch) (G : va_G) (cy : Nat → ClassId) (sz : Nat) (a_0 : Nat) (i_0 : Int32) (i_1 : Int32) (a_1 : Nat) (a_2 : Nat) (a_3 : Nat) (a_4 : Nat) (a_5 : Nat) (i_2 : Int32) (i_3 : Int32) (i_4 : Int32) (i_5 : Int32) (i_6 : Int32) (j_0 : Int64) (i_7 : Int32) (i_8 : Int32) (i_9 : Int32) (i_10 : Int32) (a_6 : Nat) (a_7 : Nat) (a_8 : Nat) (a_9 : Nat) (a_10 : Nat) (a_11 : Nat) (a_12 : Nat) (a_13 : Nat) (a_14 : Nat) (a_15 : Nat) (a_16 : Nat) (a_17 : Nat) (a_18 : Nat) (i_11 : Int32) (i_12 : Int32) (i_13 : Int32) (i_14 : Int32) (i_15 : Int32) (i_16 : Int32) (a_19 : Nat) (i_17 : Int32) (a_20 : Nat) (f_0 : Nat → Int32) (h0 : mm_rg i_2 12 592) (h1 : mm_ar f_0 (-128) 127)  : mm_CV l yX12_four (mm_ws yX12_four cX12_four 3 (none)) ({ frames := 0, cells := 0, slots := 0, locals := 0 } : Room) G cy sz [(a_0, .inr (12, [.int i_1, .ref a_1, .ref a_2, .ref a_3, .ref a_4, .ref a_5, .int i_2, .int i_3, .int i_4, .int i_5, .int i_6, .long j_0, .int i_7, .int i_8, .int i_9, .int i_10, .ref a_6, .ref a_7, .ref a_8, .ref a_9, .ref a_10, .ref a_11, .ref a_12, .ref a_13, .ref a_14, .ref a_15, .ref a_16, .ref a_17, .ref a_18, .int i_11, .int i_12, .int i_13, .int i_14, .int i_15, .int i_16, .ref a_19, .int i_17, .ref a_20])), (a_5, .inl (cy 0, 600, .inl f_0))] [.ref a_0, .int i_0] (fun u : Int32 × (Nat → Int32) => [(a_0, .inr (12, [.int i_1, .ref a_1, .ref a_2, .ref a_3, .ref a_4, .ref a_5, .int u.1, .int i_3, .int i_4, .int i_5, .int i_6, .long j_0, .int i_7, .int i_8, .int i_9, .int i_10, .ref a_6, .ref a_7, .ref a_8, .ref a_9, .ref a_10, .ref a_11, .ref a_12, .ref a_13, .ref a_14, .ref a_15, .ref a_16, .ref a_17, .ref a_18, .int i_11, .int i_12, .int i_13, .int i_14, .int i_15, .int i_16, .ref a_19, .int i_17, .ref a_20])), (a_5, .inl (cy 0, 600, .inl u.2))]) (fun u : Int32 × (Nat → Int32) => mm_rg u.1 16 596 ∧ mm_ar u.2 (-128) 127) 0 0 := by
  refine mm_begin (lv := [(0, .ref a_0), (1, .int i_0)]) (by decide) (Nat.le_of_ble_eq_true rfl) rfl ?_
  intro p e s m below meth c A ls R args Q H locs hRe hQ hAe hx hb hr hlocks hml hown hnm hts hsz hA hS hP hK hD hZ hl
  have hRf : R.frames = 0 := by rw [hRe]
  have hRl : R.locals = 0 := by rw [hRe]
  have hRc : R.cells = 0 := by rw [hRe]
  have hRs : R.slots = 0 := by rw [hRe]
  refine lv_bipush (v := 24) hx hb dX12_four_0 (by decide) ?_
  refine lv_istore_n (lv' := [(2, .int 24), (0, .ref a_0), (1, .int i_0)]) hx hb dX12_four_2 rfl hl (by decide) rfl ?_
  clear hl
  clear ls
  intro ls hl
  refine lv_iload_n hx hb dX12_four_3 rfl (lv_at hl 0 rfl) ?_
  refine lv_if_lt (tgt := 36) hx hb dX12_four_4 (by decide) (fun c1 => ?_) (fun c1 => ?_)
  · have q2 := mm_ltL (h := (-1)) (mm_lt c1) mm_k24 mm_k0 (by decide)
    exact mm_no q2 (by decide)
  · refine lv_aload_n hx hb dX12_four_7 rfl (lv_at hl 1 rfl) ?_
    refine va_get (D := G) (ci := 12) (v := .ref a_5) (C := RX12) (T := TX12) (N := 38) hx hb hts (mm_i inlX12) hown hK.1 hP 0 rfl rfl 5 (by decide) (mm_h hts mm_w146) (fun _ h9 => h9) rfl dX12_four_8 ?_
    refine lv_aload_n hx hb dX12_four_11 rfl (lv_at hl 1 rfl) ?_
    refine va_get (D := G) (ci := 12) (v := .int i_2) (C := RX12) (T := TX12) (N := 38) hx hb hts (mm_i inlX12) hown hK.1 hP 0 rfl rfl 6 (by decide) (mm_h hts mm_w178) (fun _ h9 => h9) rfl dX12_four_12 ?_
    refine lv_iload_n hx hb dX12_four_15 rfl (lv_at hl 2 rfl) ?_
    refine lv_iload_n hx hb dX12_four_16 rfl (lv_at hl 0 rfl) ?_
    refine lv_ishr hx hb dX12_four_17 ?_
    refine lv_topi (fun v3 ev3 => ?_)
    obtain ⟨v4, ev4⟩ : ∃ y : Int32, y = v3.toInt8.toInt32 := ⟨_, rfl⟩
    refine lv_i2b hx hb dX12_four_18 ev4.symm ?_
    have rv4 : mm_rg v4 (-128) 127 := mm_i2b ev4
    refine va_bast hx hb hK.1 hP hD hS 1 0 rfl rfl (mm_in h0 (by decide)) dX12_four_19 ?_
    clear hP hD hS
    clear H locs
    obtain ⟨g5, eg5⟩ : ∃ z : Nat → Int32, z = upd f_0 i_2.toNatClampNeg (vp_nar .byte v4) := ⟨_, rfl⟩
    rw [← eg5]
    intro H locs (hP : va_P G vwCl [(a_0, .inr (12, [.int i_1, .ref a_1, .ref a_2, .ref a_3, .ref a_4, .ref a_5, .int i_2, .int i_3, .int i_4, .int i_5, .int i_6, .long j_0, .int i_7, .int i_8, .int i_9, .int i_10, .ref a_6, .ref a_7, .ref a_8, .ref a_9, .ref a_10, .ref a_11, .ref a_12, .ref a_13, .ref a_14, .ref a_15, .ref a_16, .ref a_17, .ref a_18, .int i_11, .int i_12, .int i_13, .int i_14, .int i_15, .int i_16, .ref a_19, .int i_17, .ref a_20])), (a_5, .inl (cy 0, 600, .inl g5))] H) (hD : va_D A [(a_0, .inr (12, [.int i_1, .ref a_1, .ref a_2, .ref a_3, .ref a_4, .ref a_5, .int i_2, .int i_3, .int i_4, .int i_5, .int i_6, .long j_0, .int i_7, .int i_8, .int i_9, .int i_10, .ref a_6, .ref a_7, .ref a_8, .ref a_9, .ref a_10, .ref a_11, .ref a_12, .ref a_13, .ref a_14, .ref a_15, .ref a_16, .ref a_17, .ref a_18, .int i_11, .int i_12, .int i_13, .int i_14, .int i_15, .int i_16, .ref a_19, .int i_17, .ref a_20])), (a_5, .inl (cy 0, 600, .inl g5))]) hS
    have rg5 : mm_ar g5 (-128) 127 := by rw [eg5]; exact mm_ar_upd (mm_ar_wk h1 (by decide)) (mm_nb _) _
    refine lv_aload_n hx hb dX12_four_20 rfl (lv_at hl 1 rfl) ?_
    refine lv_dup hx hb dX12_four_21 rfl ?_
    refine va_get (D := G) (ci := 12) (v := .int i_2) (C := RX12) (T := TX12) (N := 38) hx hb hts (mm_i inlX12) hown hK.1 hP 0 rfl rfl 6 (by decide) (mm_h hts mm_w178) (fun _ h9 => h9) rfl dX12_four_22 ?_
    refine lv_iconst (v := 1) hx hb dX12_four_25 (by decide) ?_
    refine lv_iadd hx hb dX12_four_26 ?_
    refine lv_topi (fun v6 ev6 => ?_)
    have rv6 : mm_rg v6 13 593 := mm_add ev6 h0 mm_k1 (by decide) (by decide)
    have tv6 := mm_addEc ev6 h0 mm_k1 (by decide) (k := 1) (by decide)
    refine va_put (D := G) (ci := 12) (v := .int v6) (ty := tyX12 6) (C := RX12) (T := TX12) (N := 38) hx hb hts (mm_i inlX12) tyX12 tyX12_ok nmX12 hown hK.1 hP hD hS 0 rfl rfl 6 (by decide) (mm_h hts mm_w178) (fun _ h9 => h9) rfl (tyX12_ok 6 (by decide)) rfl rfl (Nat.le_of_ble_eq_true rfl) dX12_four_27 ?_
    clear hP hD hS
    clear H locs
    intro H locs (hP : va_P G vwCl [(a_0, .inr (12, [.int i_1, .ref a_1, .ref a_2, .ref a_3, .ref a_4, .ref a_5, .int v6, .int i_3, .int i_4, .int i_5, .int i_6, .long j_0, .int i_7, .int i_8, .int i_9, .int i_10, .ref a_6, .ref a_7, .ref a_8, .ref a_9, .ref a_10, .ref a_11, .ref a_12, .ref a_13, .ref a_14, .ref a_15, .ref a_16, .ref a_17, .ref a_18, .int i_11, .int i_12, .int i_13, .int i_14, .int i_15, .int i_16, .ref a_19, .int i_17, .ref a_20])), (a_5, .inl (cy 0, 600, .inl g5))] H) (hD : va_D A [(a_0, .inr (12, [.int i_1, .ref a_1, .ref a_2, .ref a_3, .ref a_4, .ref a_5, .int v6, .int i_3, .int i_4, .int i_5, .int i_6, .long j_0, .int i_7, .int i_8, .int i_9, .int i_10, .ref a_6, .ref a_7, .ref a_8, .ref a_9, .ref a_10, .ref a_11, .ref a_12, .ref a_13, .ref a_14, .ref a_15, .ref a_16, .ref a_17, .ref a_18, .int i_11, .int i_12, .int i_13, .int i_14, .int i_15, .int i_16, .ref a_19, .int i_17, .ref a_20])), (a_5, .inl (cy 0, 600, .inl g5))]) hS
    refine lv_iinc (v := 16) (lv' := [(2, .int 16), (0, .ref a_0), (1, .int i_0)]) hx hb dX12_four_30 hl (k := 0) rfl (by decide) (by decide) rfl ?_
    clear hl
    clear ls
    intro ls hl
    refine lv_goto (tgt := 3) hx hb dX12_four_33 (by decide) ?_
    refine lv_iload_n hx hb dX12_four_3 rfl (lv_at hl 0 rfl) ?_
    refine lv_if_lt (tgt := 36) hx hb dX12_four_4 (by decide) (fun c7 => ?_) (fun c7 => ?_)
    · have q8 := mm_ltL (h := (-1)) (mm_lt c7) mm_k16 mm_k0 (by decide)
      exact mm_no q8 (by decide)
    · refine lv_aload_n hx hb dX12_four_7 rfl (lv_at hl 1 rfl) ?_
      refine va_get (D := G) (ci := 12) (v := .ref a_5) (C := RX12) (T := TX12) (N := 38) hx hb hts (mm_i inlX12) hown hK.1 hP 0 rfl rfl 5 (by decide) (mm_h hts mm_w146) (fun _ h9 => h9) rfl dX12_four_8 ?_
      refine lv_aload_n hx hb dX12_four_11 rfl (lv_at hl 1 rfl) ?_
      refine va_get (D := G) (ci := 12) (v := .int v6) (C := RX12) (T := TX12) (N := 38) hx hb hts (mm_i inlX12) hown hK.1 hP 0 rfl rfl 6 (by decide) (mm_h hts mm_w178) (fun _ h9 => h9) rfl dX12_four_12 ?_
      refine lv_iload_n hx hb dX12_four_15 rfl (lv_at hl 2 rfl) ?_
      refine lv_iload_n hx hb dX12_four_16 rfl (lv_at hl 0 rfl) ?_
      refine lv_ishr hx hb dX12_four_17 ?_
      refine lv_topi (fun v9 ev9 => ?_)
      obtain ⟨v10, ev10⟩ : ∃ y : Int32, y = v9.toInt8.toInt32 := ⟨_, rfl⟩
      refine lv_i2b hx hb dX12_four_18 ev10.symm ?_
      have rv10 : mm_rg v10 (-128) 127 := mm_i2b ev10
      refine va_bast hx hb hK.1 hP hD hS 1 0 rfl rfl (mm_in rv6 (by decide)) dX12_four_19 ?_
      clear hP hD hS
      clear H locs
      obtain ⟨g11, eg11⟩ : ∃ z : Nat → Int32, z = upd g5 v6.toNatClampNeg (vp_nar .byte v10) := ⟨_, rfl⟩
      rw [← eg11]
      intro H locs (hP : va_P G vwCl [(a_0, .inr (12, [.int i_1, .ref a_1, .ref a_2, .ref a_3, .ref a_4, .ref a_5, .int v6, .int i_3, .int i_4, .int i_5, .int i_6, .long j_0, .int i_7, .int i_8, .int i_9, .int i_10, .ref a_6, .ref a_7, .ref a_8, .ref a_9, .ref a_10, .ref a_11, .ref a_12, .ref a_13, .ref a_14, .ref a_15, .ref a_16, .ref a_17, .ref a_18, .int i_11, .int i_12, .int i_13, .int i_14, .int i_15, .int i_16, .ref a_19, .int i_17, .ref a_20])), (a_5, .inl (cy 0, 600, .inl g11))] H) (hD : va_D A [(a_0, .inr (12, [.int i_1, .ref a_1, .ref a_2, .ref a_3, .ref a_4, .ref a_5, .int v6, .int i_3, .int i_4, .int i_5, .int i_6, .long j_0, .int i_7, .int i_8, .int i_9, .int i_10, .ref a_6, .ref a_7, .ref a_8, .ref a_9, .ref a_10, .ref a_11, .ref a_12, .ref a_13, .ref a_14, .ref a_15, .ref a_16, .ref a_17, .ref a_18, .int i_11, .int i_12, .int i_13, .int i_14, .int i_15, .int i_16, .ref a_19, .int i_17, .ref a_20])), (a_5, .inl (cy 0, 600, .inl g11))]) hS
      have rg11 : mm_ar g11 (-128) 127 := by rw [eg11]; exact mm_ar_upd (mm_ar_wk rg5 (by decide)) (mm_nb _) _
      refine lv_aload_n hx hb dX12_four_20 rfl (lv_at hl 1 rfl) ?_
      refine lv_dup hx hb dX12_four_21 rfl ?_
      refine va_get (D := G) (ci := 12) (v := .int v6) (C := RX12) (T := TX12) (N := 38) hx hb hts (mm_i inlX12) hown hK.1 hP 0 rfl rfl 6 (by decide) (mm_h hts mm_w178) (fun _ h9 => h9) rfl dX12_four_22 ?_
      refine lv_iconst (v := 1) hx hb dX12_four_25 (by decide) ?_
      refine lv_iadd hx hb dX12_four_26 ?_
      refine lv_topi (fun v12 ev12 => ?_)
      have rv12 : mm_rg v12 14 594 := mm_add ev12 rv6 mm_k1 (by decide) (by decide)
      have tv12 := mm_addEc ev12 rv6 mm_k1 (by decide) (k := 1) (by decide)
      refine va_put (D := G) (ci := 12) (v := .int v12) (ty := tyX12 6) (C := RX12) (T := TX12) (N := 38) hx hb hts (mm_i inlX12) tyX12 tyX12_ok nmX12 hown hK.1 hP hD hS 0 rfl rfl 6 (by decide) (mm_h hts mm_w178) (fun _ h9 => h9) rfl (tyX12_ok 6 (by decide)) rfl rfl (Nat.le_of_ble_eq_true rfl) dX12_four_27 ?_
      clear hP hD hS
      clear H locs
      intro H locs (hP : va_P G vwCl [(a_0, .inr (12, [.int i_1, .ref a_1, .ref a_2, .ref a_3, .ref a_4, .ref a_5, .int v12, .int i_3, .int i_4, .int i_5, .int i_6, .long j_0, .int i_7, .int i_8, .int i_9, .int i_10, .ref a_6, .ref a_7, .ref a_8, .ref a_9, .ref a_10, .ref a_11, .ref a_12, .ref a_13, .ref a_14, .ref a_15, .ref a_16, .ref a_17, .ref a_18, .int i_11, .int i_12, .int i_13, .int i_14, .int i_15, .int i_16, .ref a_19, .int i_17, .ref a_20])), (a_5, .inl (cy 0, 600, .inl g11))] H) (hD : va_D A [(a_0, .inr (12, [.int i_1, .ref a_1, .ref a_2, .ref a_3, .ref a_4, .ref a_5, .int v12, .int i_3, .int i_4, .int i_5, .int i_6, .long j_0, .int i_7, .int i_8, .int i_9, .int i_10, .ref a_6, .ref a_7, .ref a_8, .ref a_9, .ref a_10, .ref a_11, .ref a_12, .ref a_13, .ref a_14, .ref a_15, .ref a_16, .ref a_17, .ref a_18, .int i_11, .int i_12, .int i_13, .int i_14, .int i_15, .int i_16, .ref a_19, .int i_17, .ref a_20])), (a_5, .inl (cy 0, 600, .inl g11))]) hS
      refine lv_iinc (v := 8) (lv' := [(2, .int 8), (0, .ref a_0), (1, .int i_0)]) hx hb dX12_four_30 hl (k := 0) rfl (by decide) (by decide) rfl ?_
      clear hl
      clear ls
      intro ls hl
      refine lv_goto (tgt := 3) hx hb dX12_four_33 (by decide) ?_
      refine lv_iload_n hx hb dX12_four_3 rfl (lv_at hl 0 rfl) ?_
      refine lv_if_lt (tgt := 36) hx hb dX12_four_4 (by decide) (fun c13 => ?_) (fun c13 => ?_)
      · have q14 := mm_ltL (h := (-1)) (mm_lt c13) mm_k8 mm_k0 (by decide)
        exact mm_no q14 (by decide)
      · refine lv_aload_n hx hb dX12_four_7 rfl (lv_at hl 1 rfl) ?_
        refine va_get (D := G) (ci := 12) (v := .ref a_5) (C := RX12) (T := TX12) (N := 38) hx hb hts (mm_i inlX12) hown hK.1 hP 0 rfl rfl 5 (by decide) (mm_h hts mm_w146) (fun _ h9 => h9) rfl dX12_four_8 ?_
        refine lv_aload_n hx hb dX12_four_11 rfl (lv_at hl 1 rfl) ?_
        refine va_get (D := G) (ci := 12) (v := .int v12) (C := RX12) (T := TX12) (N := 38) hx hb hts (mm_i inlX12) hown hK.1 hP 0 rfl rfl 6 (by decide) (mm_h hts mm_w178) (fun _ h9 => h9) rfl dX12_four_12 ?_
        refine lv_iload_n hx hb dX12_four_15 rfl (lv_at hl 2 rfl) ?_
        refine lv_iload_n hx hb dX12_four_16 rfl (lv_at hl 0 rfl) ?_
        refine lv_ishr hx hb dX12_four_17 ?_
        refine lv_topi (fun v15 ev15 => ?_)
        obtain ⟨v16, ev16⟩ : ∃ y : Int32, y = v15.toInt8.toInt32 := ⟨_, rfl⟩
        refine lv_i2b hx hb dX12_four_18 ev16.symm ?_
        have rv16 : mm_rg v16 (-128) 127 := mm_i2b ev16
        refine va_bast hx hb hK.1 hP hD hS 1 0 rfl rfl (mm_in rv12 (by decide)) dX12_four_19 ?_
        clear hP hD hS
        clear H locs
        obtain ⟨g17, eg17⟩ : ∃ z : Nat → Int32, z = upd g11 v12.toNatClampNeg (vp_nar .byte v16) := ⟨_, rfl⟩
        rw [← eg17]
        intro H locs (hP : va_P G vwCl [(a_0, .inr (12, [.int i_1, .ref a_1, .ref a_2, .ref a_3, .ref a_4, .ref a_5, .int v12, .int i_3, .int i_4, .int i_5, .int i_6, .long j_0, .int i_7, .int i_8, .int i_9, .int i_10, .ref a_6, .ref a_7, .ref a_8, .ref a_9, .ref a_10, .ref a_11, .ref a_12, .ref a_13, .ref a_14, .ref a_15, .ref a_16, .ref a_17, .ref a_18, .int i_11, .int i_12, .int i_13, .int i_14, .int i_15, .int i_16, .ref a_19, .int i_17, .ref a_20])), (a_5, .inl (cy 0, 600, .inl g17))] H) (hD : va_D A [(a_0, .inr (12, [.int i_1, .ref a_1, .ref a_2, .ref a_3, .ref a_4, .ref a_5, .int v12, .int i_3, .int i_4, .int i_5, .int i_6, .long j_0, .int i_7, .int i_8, .int i_9, .int i_10, .ref a_6, .ref a_7, .ref a_8, .ref a_9, .ref a_10, .ref a_11, .ref a_12, .ref a_13, .ref a_14, .ref a_15, .ref a_16, .ref a_17, .ref a_18, .int i_11, .int i_12, .int i_13, .int i_14, .int i_15, .int i_16, .ref a_19, .int i_17, .ref a_20])), (a_5, .inl (cy 0, 600, .inl g17))]) hS
        have rg17 : mm_ar g17 (-128) 127 := by rw [eg17]; exact mm_ar_upd (mm_ar_wk rg11 (by decide)) (mm_nb _) _
        refine lv_aload_n hx hb dX12_four_20 rfl (lv_at hl 1 rfl) ?_
        refine lv_dup hx hb dX12_four_21 rfl ?_
        refine va_get (D := G) (ci := 12) (v := .int v12) (C := RX12) (T := TX12) (N := 38) hx hb hts (mm_i inlX12) hown hK.1 hP 0 rfl rfl 6 (by decide) (mm_h hts mm_w178) (fun _ h9 => h9) rfl dX12_four_22 ?_
        refine lv_iconst (v := 1) hx hb dX12_four_25 (by decide) ?_
        refine lv_iadd hx hb dX12_four_26 ?_
        refine lv_topi (fun v18 ev18 => ?_)
        have rv18 : mm_rg v18 15 595 := mm_add ev18 rv12 mm_k1 (by decide) (by decide)
        have tv18 := mm_addEc ev18 rv12 mm_k1 (by decide) (k := 1) (by decide)
        refine va_put (D := G) (ci := 12) (v := .int v18) (ty := tyX12 6) (C := RX12) (T := TX12) (N := 38) hx hb hts (mm_i inlX12) tyX12 tyX12_ok nmX12 hown hK.1 hP hD hS 0 rfl rfl 6 (by decide) (mm_h hts mm_w178) (fun _ h9 => h9) rfl (tyX12_ok 6 (by decide)) rfl rfl (Nat.le_of_ble_eq_true rfl) dX12_four_27 ?_
        clear hP hD hS
        clear H locs
        intro H locs (hP : va_P G vwCl [(a_0, .inr (12, [.int i_1, .ref a_1, .ref a_2, .ref a_3, .ref a_4, .ref a_5, .int v18, .int i_3, .int i_4, .int i_5, .int i_6, .long j_0, .int i_7, .int i_8, .int i_9, .int i_10, .ref a_6, .ref a_7, .ref a_8, .ref a_9, .ref a_10, .ref a_11, .ref a_12, .ref a_13, .ref a_14, .ref a_15, .ref a_16, .ref a_17, .ref a_18, .int i_11, .int i_12, .int i_13, .int i_14, .int i_15, .int i_16, .ref a_19, .int i_17, .ref a_20])), (a_5, .inl (cy 0, 600, .inl g17))] H) (hD : va_D A [(a_0, .inr (12, [.int i_1, .ref a_1, .ref a_2, .ref a_3, .ref a_4, .ref a_5, .int v18, .int i_3, .int i_4, .int i_5, .int i_6, .long j_0, .int i_7, .int i_8, .int i_9, .int i_10, .ref a_6, .ref a_7, .ref a_8, .ref a_9, .ref a_10, .ref a_11, .ref a_12, .ref a_13, .ref a_14, .ref a_15, .ref a_16, .ref a_17, .ref a_18, .int i_11, .int i_12, .int i_13, .int i_14, .int i_15, .int i_16, .ref a_19, .int i_17, .ref a_20])), (a_5, .inl (cy 0, 600, .inl g17))]) hS
        refine lv_iinc (v := 0) (lv' := [(2, .int 0), (0, .ref a_0), (1, .int i_0)]) hx hb dX12_four_30 hl (k := 0) rfl (by decide) (by decide) rfl ?_
        clear hl
        clear ls
        intro ls hl
        refine lv_goto (tgt := 3) hx hb dX12_four_33 (by decide) ?_
        refine lv_iload_n hx hb dX12_four_3 rfl (lv_at hl 0 rfl) ?_
        refine lv_if_lt (tgt := 36) hx hb dX12_four_4 (by decide) (fun c19 => ?_) (fun c19 => ?_)
        · have q20 := mm_ltL (h := (-1)) (mm_lt c19) mm_k0 mm_k0 (by decide)
          exact mm_no q20 (by decide)
        · refine lv_aload_n hx hb dX12_four_7 rfl (lv_at hl 1 rfl) ?_
          refine va_get (D := G) (ci := 12) (v := .ref a_5) (C := RX12) (T := TX12) (N := 38) hx hb hts (mm_i inlX12) hown hK.1 hP 0 rfl rfl 5 (by decide) (mm_h hts mm_w146) (fun _ h9 => h9) rfl dX12_four_8 ?_
          refine lv_aload_n hx hb dX12_four_11 rfl (lv_at hl 1 rfl) ?_
          refine va_get (D := G) (ci := 12) (v := .int v18) (C := RX12) (T := TX12) (N := 38) hx hb hts (mm_i inlX12) hown hK.1 hP 0 rfl rfl 6 (by decide) (mm_h hts mm_w178) (fun _ h9 => h9) rfl dX12_four_12 ?_
          refine lv_iload_n hx hb dX12_four_15 rfl (lv_at hl 2 rfl) ?_
          refine lv_iload_n hx hb dX12_four_16 rfl (lv_at hl 0 rfl) ?_
          refine lv_ishr hx hb dX12_four_17 ?_
          refine lv_topi (fun v21 ev21 => ?_)
          obtain ⟨v22, ev22⟩ : ∃ y : Int32, y = v21.toInt8.toInt32 := ⟨_, rfl⟩
          refine lv_i2b hx hb dX12_four_18 ev22.symm ?_
          have rv22 : mm_rg v22 (-128) 127 := mm_i2b ev22
          refine va_bast hx hb hK.1 hP hD hS 1 0 rfl rfl (mm_in rv18 (by decide)) dX12_four_19 ?_
          clear hP hD hS
          clear H locs
          obtain ⟨g23, eg23⟩ : ∃ z : Nat → Int32, z = upd g17 v18.toNatClampNeg (vp_nar .byte v22) := ⟨_, rfl⟩
          rw [← eg23]
          intro H locs (hP : va_P G vwCl [(a_0, .inr (12, [.int i_1, .ref a_1, .ref a_2, .ref a_3, .ref a_4, .ref a_5, .int v18, .int i_3, .int i_4, .int i_5, .int i_6, .long j_0, .int i_7, .int i_8, .int i_9, .int i_10, .ref a_6, .ref a_7, .ref a_8, .ref a_9, .ref a_10, .ref a_11, .ref a_12, .ref a_13, .ref a_14, .ref a_15, .ref a_16, .ref a_17, .ref a_18, .int i_11, .int i_12, .int i_13, .int i_14, .int i_15, .int i_16, .ref a_19, .int i_17, .ref a_20])), (a_5, .inl (cy 0, 600, .inl g23))] H) (hD : va_D A [(a_0, .inr (12, [.int i_1, .ref a_1, .ref a_2, .ref a_3, .ref a_4, .ref a_5, .int v18, .int i_3, .int i_4, .int i_5, .int i_6, .long j_0, .int i_7, .int i_8, .int i_9, .int i_10, .ref a_6, .ref a_7, .ref a_8, .ref a_9, .ref a_10, .ref a_11, .ref a_12, .ref a_13, .ref a_14, .ref a_15, .ref a_16, .ref a_17, .ref a_18, .int i_11, .int i_12, .int i_13, .int i_14, .int i_15, .int i_16, .ref a_19, .int i_17, .ref a_20])), (a_5, .inl (cy 0, 600, .inl g23))]) hS
          have rg23 : mm_ar g23 (-128) 127 := by rw [eg23]; exact mm_ar_upd (mm_ar_wk rg17 (by decide)) (mm_nb _) _
          refine lv_aload_n hx hb dX12_four_20 rfl (lv_at hl 1 rfl) ?_
          refine lv_dup hx hb dX12_four_21 rfl ?_
          refine va_get (D := G) (ci := 12) (v := .int v18) (C := RX12) (T := TX12) (N := 38) hx hb hts (mm_i inlX12) hown hK.1 hP 0 rfl rfl 6 (by decide) (mm_h hts mm_w178) (fun _ h9 => h9) rfl dX12_four_22 ?_
          refine lv_iconst (v := 1) hx hb dX12_four_25 (by decide) ?_
          refine lv_iadd hx hb dX12_four_26 ?_
          refine lv_topi (fun v24 ev24 => ?_)
          have rv24 : mm_rg v24 16 596 := mm_add ev24 rv18 mm_k1 (by decide) (by decide)
          have tv24 := mm_addEc ev24 rv18 mm_k1 (by decide) (k := 1) (by decide)
          refine va_put (D := G) (ci := 12) (v := .int v24) (ty := tyX12 6) (C := RX12) (T := TX12) (N := 38) hx hb hts (mm_i inlX12) tyX12 tyX12_ok nmX12 hown hK.1 hP hD hS 0 rfl rfl 6 (by decide) (mm_h hts mm_w178) (fun _ h9 => h9) rfl (tyX12_ok 6 (by decide)) rfl rfl (Nat.le_of_ble_eq_true rfl) dX12_four_27 ?_
          clear hP hD hS
          clear H locs
          intro H locs (hP : va_P G vwCl [(a_0, .inr (12, [.int i_1, .ref a_1, .ref a_2, .ref a_3, .ref a_4, .ref a_5, .int v24, .int i_3, .int i_4, .int i_5, .int i_6, .long j_0, .int i_7, .int i_8, .int i_9, .int i_10, .ref a_6, .ref a_7, .ref a_8, .ref a_9, .ref a_10, .ref a_11, .ref a_12, .ref a_13, .ref a_14, .ref a_15, .ref a_16, .ref a_17, .ref a_18, .int i_11, .int i_12, .int i_13, .int i_14, .int i_15, .int i_16, .ref a_19, .int i_17, .ref a_20])), (a_5, .inl (cy 0, 600, .inl g23))] H) (hD : va_D A [(a_0, .inr (12, [.int i_1, .ref a_1, .ref a_2, .ref a_3, .ref a_4, .ref a_5, .int v24, .int i_3, .int i_4, .int i_5, .int i_6, .long j_0, .int i_7, .int i_8, .int i_9, .int i_10, .ref a_6, .ref a_7, .ref a_8, .ref a_9, .ref a_10, .ref a_11, .ref a_12, .ref a_13, .ref a_14, .ref a_15, .ref a_16, .ref a_17, .ref a_18, .int i_11, .int i_12, .int i_13, .int i_14, .int i_15, .int i_16, .ref a_19, .int i_17, .ref a_20])), (a_5, .inl (cy 0, 600, .inl g23))]) hS
          refine lv_iinc (v := (-8)) (lv' := [(2, .int (-8)), (0, .ref a_0), (1, .int i_0)]) hx hb dX12_four_30 hl (k := 0) rfl (by decide) (by decide) rfl ?_
          clear hl
          clear ls
          intro ls hl
          refine lv_goto (tgt := 3) hx hb dX12_four_33 (by decide) ?_
          refine lv_iload_n hx hb dX12_four_3 rfl (lv_at hl 0 rfl) ?_
          refine lv_if_lt (tgt := 36) hx hb dX12_four_4 (by decide) (fun c25 => ?_) (fun c25 => ?_)
          · subst hAe
            rw [hQ]
            exact W.vret hx hb hr (fun t ht hW => ⟨⟨(v24, g23), rfl, ⟨rv24, rg23⟩, by rw [ht]; exact hP, hK.warm hW, hD⟩, hS.F ht⟩) hS.2.2 dX12_four_36
          · have q26 := mm_leL (mm_nlt c25) mm_k0 mm_km8
            exact mm_no q26 (by decide)

set_option maxHeartbeats 4000000 in
set_option maxRecDepth 100000 in
theorem M5_X12_four (l : Launch) (G : va_G) (cy : Nat → ClassId) (sz : Nat) (a_0 : Nat) (i_0 : Int32) (i_1 : Int32) (a_1 : Nat) (a_2 : Nat) (a_3 : Nat) (a_4 : Nat) (a_5 : Nat) (i_2 : Int32) (i_3 : Int32) (i_4 : Int32) (i_5 : Int32) (i_6 : Int32) (j_0 : Int64) (i_7 : Int32) (i_8 : Int32) (i_9 : Int32) (i_10 : Int32) (a_6 : Nat) (a_7 : Nat) (a_8 : Nat) (a_9 : Nat) (a_10 : Nat) (a_11 : Nat) (a_12 : Nat) (a_13 : Nat) (a_14 : Nat) (a_15 : Nat) (a_16 : Nat) (a_17 : Nat) (a_18 : Nat) (i_11 : Int32) (i_12 : Int32) (i_13 : Int32) (i_14 : Int32) (i_15 : Int32) (i_16 : Int32) (a_19 : Nat) (i_17 : Int32) (a_20 : Nat) (f_0 : Nat → Int32) (h0 : mm_rg i_2 16 596) (h1 : mm_ar f_0 (-128) 127)  : mm_CV l yX12_four (mm_ws yX12_four cX12_four 3 (none)) ({ frames := 0, cells := 0, slots := 0, locals := 0 } : Room) G cy sz [(a_0, .inr (12, [.int i_1, .ref a_1, .ref a_2, .ref a_3, .ref a_4, .ref a_5, .int i_2, .int i_3, .int i_4, .int i_5, .int i_6, .long j_0, .int i_7, .int i_8, .int i_9, .int i_10, .ref a_6, .ref a_7, .ref a_8, .ref a_9, .ref a_10, .ref a_11, .ref a_12, .ref a_13, .ref a_14, .ref a_15, .ref a_16, .ref a_17, .ref a_18, .int i_11, .int i_12, .int i_13, .int i_14, .int i_15, .int i_16, .ref a_19, .int i_17, .ref a_20])), (a_5, .inl (cy 0, 600, .inl f_0))] [.ref a_0, .int i_0] (fun u : Int32 × (Nat → Int32) => [(a_0, .inr (12, [.int i_1, .ref a_1, .ref a_2, .ref a_3, .ref a_4, .ref a_5, .int u.1, .int i_3, .int i_4, .int i_5, .int i_6, .long j_0, .int i_7, .int i_8, .int i_9, .int i_10, .ref a_6, .ref a_7, .ref a_8, .ref a_9, .ref a_10, .ref a_11, .ref a_12, .ref a_13, .ref a_14, .ref a_15, .ref a_16, .ref a_17, .ref a_18, .int i_11, .int i_12, .int i_13, .int i_14, .int i_15, .int i_16, .ref a_19, .int i_17, .ref a_20])), (a_5, .inl (cy 0, 600, .inl u.2))]) (fun u : Int32 × (Nat → Int32) => mm_rg u.1 20 600 ∧ mm_ar u.2 (-128) 127) 0 0 := by
  refine mm_begin (lv := [(0, .ref a_0), (1, .int i_0)]) (by decide) (Nat.le_of_ble_eq_true rfl) rfl ?_
  intro p e s m below meth c A ls R args Q H locs hRe hQ hAe hx hb hr hlocks hml hown hnm hts hsz hA hS hP hK hD hZ hl
  have hRf : R.frames = 0 := by rw [hRe]
  have hRl : R.locals = 0 := by rw [hRe]
  have hRc : R.cells = 0 := by rw [hRe]
  have hRs : R.slots = 0 := by rw [hRe]
  refine lv_bipush (v := 24) hx hb dX12_four_0 (by decide) ?_
  refine lv_istore_n (lv' := [(2, .int 24), (0, .ref a_0), (1, .int i_0)]) hx hb dX12_four_2 rfl hl (by decide) rfl ?_
  clear hl
  clear ls
  intro ls hl
  refine lv_iload_n hx hb dX12_four_3 rfl (lv_at hl 0 rfl) ?_
  refine lv_if_lt (tgt := 36) hx hb dX12_four_4 (by decide) (fun c1 => ?_) (fun c1 => ?_)
  · have q2 := mm_ltL (h := (-1)) (mm_lt c1) mm_k24 mm_k0 (by decide)
    exact mm_no q2 (by decide)
  · refine lv_aload_n hx hb dX12_four_7 rfl (lv_at hl 1 rfl) ?_
    refine va_get (D := G) (ci := 12) (v := .ref a_5) (C := RX12) (T := TX12) (N := 38) hx hb hts (mm_i inlX12) hown hK.1 hP 0 rfl rfl 5 (by decide) (mm_h hts mm_w146) (fun _ h9 => h9) rfl dX12_four_8 ?_
    refine lv_aload_n hx hb dX12_four_11 rfl (lv_at hl 1 rfl) ?_
    refine va_get (D := G) (ci := 12) (v := .int i_2) (C := RX12) (T := TX12) (N := 38) hx hb hts (mm_i inlX12) hown hK.1 hP 0 rfl rfl 6 (by decide) (mm_h hts mm_w178) (fun _ h9 => h9) rfl dX12_four_12 ?_
    refine lv_iload_n hx hb dX12_four_15 rfl (lv_at hl 2 rfl) ?_
    refine lv_iload_n hx hb dX12_four_16 rfl (lv_at hl 0 rfl) ?_
    refine lv_ishr hx hb dX12_four_17 ?_
    refine lv_topi (fun v3 ev3 => ?_)
    obtain ⟨v4, ev4⟩ : ∃ y : Int32, y = v3.toInt8.toInt32 := ⟨_, rfl⟩
    refine lv_i2b hx hb dX12_four_18 ev4.symm ?_
    have rv4 : mm_rg v4 (-128) 127 := mm_i2b ev4
    refine va_bast hx hb hK.1 hP hD hS 1 0 rfl rfl (mm_in h0 (by decide)) dX12_four_19 ?_
    clear hP hD hS
    clear H locs
    obtain ⟨g5, eg5⟩ : ∃ z : Nat → Int32, z = upd f_0 i_2.toNatClampNeg (vp_nar .byte v4) := ⟨_, rfl⟩
    rw [← eg5]
    intro H locs (hP : va_P G vwCl [(a_0, .inr (12, [.int i_1, .ref a_1, .ref a_2, .ref a_3, .ref a_4, .ref a_5, .int i_2, .int i_3, .int i_4, .int i_5, .int i_6, .long j_0, .int i_7, .int i_8, .int i_9, .int i_10, .ref a_6, .ref a_7, .ref a_8, .ref a_9, .ref a_10, .ref a_11, .ref a_12, .ref a_13, .ref a_14, .ref a_15, .ref a_16, .ref a_17, .ref a_18, .int i_11, .int i_12, .int i_13, .int i_14, .int i_15, .int i_16, .ref a_19, .int i_17, .ref a_20])), (a_5, .inl (cy 0, 600, .inl g5))] H) (hD : va_D A [(a_0, .inr (12, [.int i_1, .ref a_1, .ref a_2, .ref a_3, .ref a_4, .ref a_5, .int i_2, .int i_3, .int i_4, .int i_5, .int i_6, .long j_0, .int i_7, .int i_8, .int i_9, .int i_10, .ref a_6, .ref a_7, .ref a_8, .ref a_9, .ref a_10, .ref a_11, .ref a_12, .ref a_13, .ref a_14, .ref a_15, .ref a_16, .ref a_17, .ref a_18, .int i_11, .int i_12, .int i_13, .int i_14, .int i_15, .int i_16, .ref a_19, .int i_17, .ref a_20])), (a_5, .inl (cy 0, 600, .inl g5))]) hS
    have rg5 : mm_ar g5 (-128) 127 := by rw [eg5]; exact mm_ar_upd (mm_ar_wk h1 (by decide)) (mm_nb _) _
    refine lv_aload_n hx hb dX12_four_20 rfl (lv_at hl 1 rfl) ?_
    refine lv_dup hx hb dX12_four_21 rfl ?_
    refine va_get (D := G) (ci := 12) (v := .int i_2) (C := RX12) (T := TX12) (N := 38) hx hb hts (mm_i inlX12) hown hK.1 hP 0 rfl rfl 6 (by decide) (mm_h hts mm_w178) (fun _ h9 => h9) rfl dX12_four_22 ?_
    refine lv_iconst (v := 1) hx hb dX12_four_25 (by decide) ?_
    refine lv_iadd hx hb dX12_four_26 ?_
    refine lv_topi (fun v6 ev6 => ?_)
    have rv6 : mm_rg v6 17 597 := mm_add ev6 h0 mm_k1 (by decide) (by decide)
    have tv6 := mm_addEc ev6 h0 mm_k1 (by decide) (k := 1) (by decide)
    refine va_put (D := G) (ci := 12) (v := .int v6) (ty := tyX12 6) (C := RX12) (T := TX12) (N := 38) hx hb hts (mm_i inlX12) tyX12 tyX12_ok nmX12 hown hK.1 hP hD hS 0 rfl rfl 6 (by decide) (mm_h hts mm_w178) (fun _ h9 => h9) rfl (tyX12_ok 6 (by decide)) rfl rfl (Nat.le_of_ble_eq_true rfl) dX12_four_27 ?_
    clear hP hD hS
    clear H locs
    intro H locs (hP : va_P G vwCl [(a_0, .inr (12, [.int i_1, .ref a_1, .ref a_2, .ref a_3, .ref a_4, .ref a_5, .int v6, .int i_3, .int i_4, .int i_5, .int i_6, .long j_0, .int i_7, .int i_8, .int i_9, .int i_10, .ref a_6, .ref a_7, .ref a_8, .ref a_9, .ref a_10, .ref a_11, .ref a_12, .ref a_13, .ref a_14, .ref a_15, .ref a_16, .ref a_17, .ref a_18, .int i_11, .int i_12, .int i_13, .int i_14, .int i_15, .int i_16, .ref a_19, .int i_17, .ref a_20])), (a_5, .inl (cy 0, 600, .inl g5))] H) (hD : va_D A [(a_0, .inr (12, [.int i_1, .ref a_1, .ref a_2, .ref a_3, .ref a_4, .ref a_5, .int v6, .int i_3, .int i_4, .int i_5, .int i_6, .long j_0, .int i_7, .int i_8, .int i_9, .int i_10, .ref a_6, .ref a_7, .ref a_8, .ref a_9, .ref a_10, .ref a_11, .ref a_12, .ref a_13, .ref a_14, .ref a_15, .ref a_16, .ref a_17, .ref a_18, .int i_11, .int i_12, .int i_13, .int i_14, .int i_15, .int i_16, .ref a_19, .int i_17, .ref a_20])), (a_5, .inl (cy 0, 600, .inl g5))]) hS
    refine lv_iinc (v := 16) (lv' := [(2, .int 16), (0, .ref a_0), (1, .int i_0)]) hx hb dX12_four_30 hl (k := 0) rfl (by decide) (by decide) rfl ?_
    clear hl
    clear ls
    intro ls hl
    refine lv_goto (tgt := 3) hx hb dX12_four_33 (by decide) ?_
    refine lv_iload_n hx hb dX12_four_3 rfl (lv_at hl 0 rfl) ?_
    refine lv_if_lt (tgt := 36) hx hb dX12_four_4 (by decide) (fun c7 => ?_) (fun c7 => ?_)
    · have q8 := mm_ltL (h := (-1)) (mm_lt c7) mm_k16 mm_k0 (by decide)
      exact mm_no q8 (by decide)
    · refine lv_aload_n hx hb dX12_four_7 rfl (lv_at hl 1 rfl) ?_
      refine va_get (D := G) (ci := 12) (v := .ref a_5) (C := RX12) (T := TX12) (N := 38) hx hb hts (mm_i inlX12) hown hK.1 hP 0 rfl rfl 5 (by decide) (mm_h hts mm_w146) (fun _ h9 => h9) rfl dX12_four_8 ?_
      refine lv_aload_n hx hb dX12_four_11 rfl (lv_at hl 1 rfl) ?_
      refine va_get (D := G) (ci := 12) (v := .int v6) (C := RX12) (T := TX12) (N := 38) hx hb hts (mm_i inlX12) hown hK.1 hP 0 rfl rfl 6 (by decide) (mm_h hts mm_w178) (fun _ h9 => h9) rfl dX12_four_12 ?_
      refine lv_iload_n hx hb dX12_four_15 rfl (lv_at hl 2 rfl) ?_
      refine lv_iload_n hx hb dX12_four_16 rfl (lv_at hl 0 rfl) ?_
      refine lv_ishr hx hb dX12_four_17 ?_
      refine lv_topi (fun v9 ev9 => ?_)
      obtain ⟨v10, ev10⟩ : ∃ y : Int32, y = v9.toInt8.toInt32 := ⟨_, rfl⟩
      refine lv_i2b hx hb dX12_four_18 ev10.symm ?_
      have rv10 : mm_rg v10 (-128) 127 := mm_i2b ev10
      refine va_bast hx hb hK.1 hP hD hS 1 0 rfl rfl (mm_in rv6 (by decide)) dX12_four_19 ?_
      clear hP hD hS
      clear H locs
      obtain ⟨g11, eg11⟩ : ∃ z : Nat → Int32, z = upd g5 v6.toNatClampNeg (vp_nar .byte v10) := ⟨_, rfl⟩
      rw [← eg11]
      intro H locs (hP : va_P G vwCl [(a_0, .inr (12, [.int i_1, .ref a_1, .ref a_2, .ref a_3, .ref a_4, .ref a_5, .int v6, .int i_3, .int i_4, .int i_5, .int i_6, .long j_0, .int i_7, .int i_8, .int i_9, .int i_10, .ref a_6, .ref a_7, .ref a_8, .ref a_9, .ref a_10, .ref a_11, .ref a_12, .ref a_13, .ref a_14, .ref a_15, .ref a_16, .ref a_17, .ref a_18, .int i_11, .int i_12, .int i_13, .int i_14, .int i_15, .int i_16, .ref a_19, .int i_17, .ref a_20])), (a_5, .inl (cy 0, 600, .inl g11))] H) (hD : va_D A [(a_0, .inr (12, [.int i_1, .ref a_1, .ref a_2, .ref a_3, .ref a_4, .ref a_5, .int v6, .int i_3, .int i_4, .int i_5, .int i_6, .long j_0, .int i_7, .int i_8, .int i_9, .int i_10, .ref a_6, .ref a_7, .ref a_8, .ref a_9, .ref a_10, .ref a_11, .ref a_12, .ref a_13, .ref a_14, .ref a_15, .ref a_16, .ref a_17, .ref a_18, .int i_11, .int i_12, .int i_13, .int i_14, .int i_15, .int i_16, .ref a_19, .int i_17, .ref a_20])), (a_5, .inl (cy 0, 600, .inl g11))]) hS
      have rg11 : mm_ar g11 (-128) 127 := by rw [eg11]; exact mm_ar_upd (mm_ar_wk rg5 (by decide)) (mm_nb _) _
      refine lv_aload_n hx hb dX12_four_20 rfl (lv_at hl 1 rfl) ?_
      refine lv_dup hx hb dX12_four_21 rfl ?_
      refine va_get (D := G) (ci := 12) (v := .int v6) (C := RX12) (T := TX12) (N := 38) hx hb hts (mm_i inlX12) hown hK.1 hP 0 rfl rfl 6 (by decide) (mm_h hts mm_w178) (fun _ h9 => h9) rfl dX12_four_22 ?_
      refine lv_iconst (v := 1) hx hb dX12_four_25 (by decide) ?_
      refine lv_iadd hx hb dX12_four_26 ?_
      refine lv_topi (fun v12 ev12 => ?_)
      have rv12 : mm_rg v12 18 598 := mm_add ev12 rv6 mm_k1 (by decide) (by decide)
      have tv12 := mm_addEc ev12 rv6 mm_k1 (by decide) (k := 1) (by decide)
      refine va_put (D := G) (ci := 12) (v := .int v12) (ty := tyX12 6) (C := RX12) (T := TX12) (N := 38) hx hb hts (mm_i inlX12) tyX12 tyX12_ok nmX12 hown hK.1 hP hD hS 0 rfl rfl 6 (by decide) (mm_h hts mm_w178) (fun _ h9 => h9) rfl (tyX12_ok 6 (by decide)) rfl rfl (Nat.le_of_ble_eq_true rfl) dX12_four_27 ?_
      clear hP hD hS
      clear H locs
      intro H locs (hP : va_P G vwCl [(a_0, .inr (12, [.int i_1, .ref a_1, .ref a_2, .ref a_3, .ref a_4, .ref a_5, .int v12, .int i_3, .int i_4, .int i_5, .int i_6, .long j_0, .int i_7, .int i_8, .int i_9, .int i_10, .ref a_6, .ref a_7, .ref a_8, .ref a_9, .ref a_10, .ref a_11, .ref a_12, .ref a_13, .ref a_14, .ref a_15, .ref a_16, .ref a_17, .ref a_18, .int i_11, .int i_12, .int i_13, .int i_14, .int i_15, .int i_16, .ref a_19, .int i_17, .ref a_20])), (a_5, .inl (cy 0, 600, .inl g11))] H) (hD : va_D A [(a_0, .inr (12, [.int i_1, .ref a_1, .ref a_2, .ref a_3, .ref a_4, .ref a_5, .int v12, .int i_3, .int i_4, .int i_5, .int i_6, .long j_0, .int i_7, .int i_8, .int i_9, .int i_10, .ref a_6, .ref a_7, .ref a_8, .ref a_9, .ref a_10, .ref a_11, .ref a_12, .ref a_13, .ref a_14, .ref a_15, .ref a_16, .ref a_17, .ref a_18, .int i_11, .int i_12, .int i_13, .int i_14, .int i_15, .int i_16, .ref a_19, .int i_17, .ref a_20])), (a_5, .inl (cy 0, 600, .inl g11))]) hS
      refine lv_iinc (v := 8) (lv' := [(2, .int 8), (0, .ref a_0), (1, .int i_0)]) hx hb dX12_four_30 hl (k := 0) rfl (by decide) (by decide) rfl ?_
      clear hl
      clear ls
      intro ls hl
      refine lv_goto (tgt := 3) hx hb dX12_four_33 (by decide) ?_
      refine lv_iload_n hx hb dX12_four_3 rfl (lv_at hl 0 rfl) ?_
      refine lv_if_lt (tgt := 36) hx hb dX12_four_4 (by decide) (fun c13 => ?_) (fun c13 => ?_)
      · have q14 := mm_ltL (h := (-1)) (mm_lt c13) mm_k8 mm_k0 (by decide)
        exact mm_no q14 (by decide)
      · refine lv_aload_n hx hb dX12_four_7 rfl (lv_at hl 1 rfl) ?_
        refine va_get (D := G) (ci := 12) (v := .ref a_5) (C := RX12) (T := TX12) (N := 38) hx hb hts (mm_i inlX12) hown hK.1 hP 0 rfl rfl 5 (by decide) (mm_h hts mm_w146) (fun _ h9 => h9) rfl dX12_four_8 ?_
        refine lv_aload_n hx hb dX12_four_11 rfl (lv_at hl 1 rfl) ?_
        refine va_get (D := G) (ci := 12) (v := .int v12) (C := RX12) (T := TX12) (N := 38) hx hb hts (mm_i inlX12) hown hK.1 hP 0 rfl rfl 6 (by decide) (mm_h hts mm_w178) (fun _ h9 => h9) rfl dX12_four_12 ?_
        refine lv_iload_n hx hb dX12_four_15 rfl (lv_at hl 2 rfl) ?_
        refine lv_iload_n hx hb dX12_four_16 rfl (lv_at hl 0 rfl) ?_
        refine lv_ishr hx hb dX12_four_17 ?_
        refine lv_topi (fun v15 ev15 => ?_)
        obtain ⟨v16, ev16⟩ : ∃ y : Int32, y = v15.toInt8.toInt32 := ⟨_, rfl⟩
        refine lv_i2b hx hb dX12_four_18 ev16.symm ?_
        have rv16 : mm_rg v16 (-128) 127 := mm_i2b ev16
        refine va_bast hx hb hK.1 hP hD hS 1 0 rfl rfl (mm_in rv12 (by decide)) dX12_four_19 ?_
        clear hP hD hS
        clear H locs
        obtain ⟨g17, eg17⟩ : ∃ z : Nat → Int32, z = upd g11 v12.toNatClampNeg (vp_nar .byte v16) := ⟨_, rfl⟩
        rw [← eg17]
        intro H locs (hP : va_P G vwCl [(a_0, .inr (12, [.int i_1, .ref a_1, .ref a_2, .ref a_3, .ref a_4, .ref a_5, .int v12, .int i_3, .int i_4, .int i_5, .int i_6, .long j_0, .int i_7, .int i_8, .int i_9, .int i_10, .ref a_6, .ref a_7, .ref a_8, .ref a_9, .ref a_10, .ref a_11, .ref a_12, .ref a_13, .ref a_14, .ref a_15, .ref a_16, .ref a_17, .ref a_18, .int i_11, .int i_12, .int i_13, .int i_14, .int i_15, .int i_16, .ref a_19, .int i_17, .ref a_20])), (a_5, .inl (cy 0, 600, .inl g17))] H) (hD : va_D A [(a_0, .inr (12, [.int i_1, .ref a_1, .ref a_2, .ref a_3, .ref a_4, .ref a_5, .int v12, .int i_3, .int i_4, .int i_5, .int i_6, .long j_0, .int i_7, .int i_8, .int i_9, .int i_10, .ref a_6, .ref a_7, .ref a_8, .ref a_9, .ref a_10, .ref a_11, .ref a_12, .ref a_13, .ref a_14, .ref a_15, .ref a_16, .ref a_17, .ref a_18, .int i_11, .int i_12, .int i_13, .int i_14, .int i_15, .int i_16, .ref a_19, .int i_17, .ref a_20])), (a_5, .inl (cy 0, 600, .inl g17))]) hS
        have rg17 : mm_ar g17 (-128) 127 := by rw [eg17]; exact mm_ar_upd (mm_ar_wk rg11 (by decide)) (mm_nb _) _
        refine lv_aload_n hx hb dX12_four_20 rfl (lv_at hl 1 rfl) ?_
        refine lv_dup hx hb dX12_four_21 rfl ?_
        refine va_get (D := G) (ci := 12) (v := .int v12) (C := RX12) (T := TX12) (N := 38) hx hb hts (mm_i inlX12) hown hK.1 hP 0 rfl rfl 6 (by decide) (mm_h hts mm_w178) (fun _ h9 => h9) rfl dX12_four_22 ?_
        refine lv_iconst (v := 1) hx hb dX12_four_25 (by decide) ?_
        refine lv_iadd hx hb dX12_four_26 ?_
        refine lv_topi (fun v18 ev18 => ?_)
        have rv18 : mm_rg v18 19 599 := mm_add ev18 rv12 mm_k1 (by decide) (by decide)
        have tv18 := mm_addEc ev18 rv12 mm_k1 (by decide) (k := 1) (by decide)
        refine va_put (D := G) (ci := 12) (v := .int v18) (ty := tyX12 6) (C := RX12) (T := TX12) (N := 38) hx hb hts (mm_i inlX12) tyX12 tyX12_ok nmX12 hown hK.1 hP hD hS 0 rfl rfl 6 (by decide) (mm_h hts mm_w178) (fun _ h9 => h9) rfl (tyX12_ok 6 (by decide)) rfl rfl (Nat.le_of_ble_eq_true rfl) dX12_four_27 ?_
        clear hP hD hS
        clear H locs
        intro H locs (hP : va_P G vwCl [(a_0, .inr (12, [.int i_1, .ref a_1, .ref a_2, .ref a_3, .ref a_4, .ref a_5, .int v18, .int i_3, .int i_4, .int i_5, .int i_6, .long j_0, .int i_7, .int i_8, .int i_9, .int i_10, .ref a_6, .ref a_7, .ref a_8, .ref a_9, .ref a_10, .ref a_11, .ref a_12, .ref a_13, .ref a_14, .ref a_15, .ref a_16, .ref a_17, .ref a_18, .int i_11, .int i_12, .int i_13, .int i_14, .int i_15, .int i_16, .ref a_19, .int i_17, .ref a_20])), (a_5, .inl (cy 0, 600, .inl g17))] H) (hD : va_D A [(a_0, .inr (12, [.int i_1, .ref a_1, .ref a_2, .ref a_3, .ref a_4, .ref a_5, .int v18, .int i_3, .int i_4, .int i_5, .int i_6, .long j_0, .int i_7, .int i_8, .int i_9, .int i_10, .ref a_6, .ref a_7, .ref a_8, .ref a_9, .ref a_10, .ref a_11, .ref a_12, .ref a_13, .ref a_14, .ref a_15, .ref a_16, .ref a_17, .ref a_18, .int i_11, .int i_12, .int i_13, .int i_14, .int i_15, .int i_16, .ref a_19, .int i_17, .ref a_20])), (a_5, .inl (cy 0, 600, .inl g17))]) hS
        refine lv_iinc (v := 0) (lv' := [(2, .int 0), (0, .ref a_0), (1, .int i_0)]) hx hb dX12_four_30 hl (k := 0) rfl (by decide) (by decide) rfl ?_
        clear hl
        clear ls
        intro ls hl
        refine lv_goto (tgt := 3) hx hb dX12_four_33 (by decide) ?_
        refine lv_iload_n hx hb dX12_four_3 rfl (lv_at hl 0 rfl) ?_
        refine lv_if_lt (tgt := 36) hx hb dX12_four_4 (by decide) (fun c19 => ?_) (fun c19 => ?_)
        · have q20 := mm_ltL (h := (-1)) (mm_lt c19) mm_k0 mm_k0 (by decide)
          exact mm_no q20 (by decide)
        · refine lv_aload_n hx hb dX12_four_7 rfl (lv_at hl 1 rfl) ?_
          refine va_get (D := G) (ci := 12) (v := .ref a_5) (C := RX12) (T := TX12) (N := 38) hx hb hts (mm_i inlX12) hown hK.1 hP 0 rfl rfl 5 (by decide) (mm_h hts mm_w146) (fun _ h9 => h9) rfl dX12_four_8 ?_
          refine lv_aload_n hx hb dX12_four_11 rfl (lv_at hl 1 rfl) ?_
          refine va_get (D := G) (ci := 12) (v := .int v18) (C := RX12) (T := TX12) (N := 38) hx hb hts (mm_i inlX12) hown hK.1 hP 0 rfl rfl 6 (by decide) (mm_h hts mm_w178) (fun _ h9 => h9) rfl dX12_four_12 ?_
          refine lv_iload_n hx hb dX12_four_15 rfl (lv_at hl 2 rfl) ?_
          refine lv_iload_n hx hb dX12_four_16 rfl (lv_at hl 0 rfl) ?_
          refine lv_ishr hx hb dX12_four_17 ?_
          refine lv_topi (fun v21 ev21 => ?_)
          obtain ⟨v22, ev22⟩ : ∃ y : Int32, y = v21.toInt8.toInt32 := ⟨_, rfl⟩
          refine lv_i2b hx hb dX12_four_18 ev22.symm ?_
          have rv22 : mm_rg v22 (-128) 127 := mm_i2b ev22
          refine va_bast hx hb hK.1 hP hD hS 1 0 rfl rfl (mm_in rv18 (by decide)) dX12_four_19 ?_
          clear hP hD hS
          clear H locs
          obtain ⟨g23, eg23⟩ : ∃ z : Nat → Int32, z = upd g17 v18.toNatClampNeg (vp_nar .byte v22) := ⟨_, rfl⟩
          rw [← eg23]
          intro H locs (hP : va_P G vwCl [(a_0, .inr (12, [.int i_1, .ref a_1, .ref a_2, .ref a_3, .ref a_4, .ref a_5, .int v18, .int i_3, .int i_4, .int i_5, .int i_6, .long j_0, .int i_7, .int i_8, .int i_9, .int i_10, .ref a_6, .ref a_7, .ref a_8, .ref a_9, .ref a_10, .ref a_11, .ref a_12, .ref a_13, .ref a_14, .ref a_15, .ref a_16, .ref a_17, .ref a_18, .int i_11, .int i_12, .int i_13, .int i_14, .int i_15, .int i_16, .ref a_19, .int i_17, .ref a_20])), (a_5, .inl (cy 0, 600, .inl g23))] H) (hD : va_D A [(a_0, .inr (12, [.int i_1, .ref a_1, .ref a_2, .ref a_3, .ref a_4, .ref a_5, .int v18, .int i_3, .int i_4, .int i_5, .int i_6, .long j_0, .int i_7, .int i_8, .int i_9, .int i_10, .ref a_6, .ref a_7, .ref a_8, .ref a_9, .ref a_10, .ref a_11, .ref a_12, .ref a_13, .ref a_14, .ref a_15, .ref a_16, .ref a_17, .ref a_18, .int i_11, .int i_12, .int i_13, .int i_14, .int i_15, .int i_16, .ref a_19, .int i_17, .ref a_20])), (a_5, .inl (cy 0, 600, .inl g23))]) hS
          have rg23 : mm_ar g23 (-128) 127 := by rw [eg23]; exact mm_ar_upd (mm_ar_wk rg17 (by decide)) (mm_nb _) _
          refine lv_aload_n hx hb dX12_four_20 rfl (lv_at hl 1 rfl) ?_
          refine lv_dup hx hb dX12_four_21 rfl ?_
          refine va_get (D := G) (ci := 12) (v := .int v18) (C := RX12) (T := TX12) (N := 38) hx hb hts (mm_i inlX12) hown hK.1 hP 0 rfl rfl 6 (by decide) (mm_h hts mm_w178) (fun _ h9 => h9) rfl dX12_four_22 ?_
          refine lv_iconst (v := 1) hx hb dX12_four_25 (by decide) ?_
          refine lv_iadd hx hb dX12_four_26 ?_
          refine lv_topi (fun v24 ev24 => ?_)
          have rv24 : mm_rg v24 20 600 := mm_add ev24 rv18 mm_k1 (by decide) (by decide)
          have tv24 := mm_addEc ev24 rv18 mm_k1 (by decide) (k := 1) (by decide)
          refine va_put (D := G) (ci := 12) (v := .int v24) (ty := tyX12 6) (C := RX12) (T := TX12) (N := 38) hx hb hts (mm_i inlX12) tyX12 tyX12_ok nmX12 hown hK.1 hP hD hS 0 rfl rfl 6 (by decide) (mm_h hts mm_w178) (fun _ h9 => h9) rfl (tyX12_ok 6 (by decide)) rfl rfl (Nat.le_of_ble_eq_true rfl) dX12_four_27 ?_
          clear hP hD hS
          clear H locs
          intro H locs (hP : va_P G vwCl [(a_0, .inr (12, [.int i_1, .ref a_1, .ref a_2, .ref a_3, .ref a_4, .ref a_5, .int v24, .int i_3, .int i_4, .int i_5, .int i_6, .long j_0, .int i_7, .int i_8, .int i_9, .int i_10, .ref a_6, .ref a_7, .ref a_8, .ref a_9, .ref a_10, .ref a_11, .ref a_12, .ref a_13, .ref a_14, .ref a_15, .ref a_16, .ref a_17, .ref a_18, .int i_11, .int i_12, .int i_13, .int i_14, .int i_15, .int i_16, .ref a_19, .int i_17, .ref a_20])), (a_5, .inl (cy 0, 600, .inl g23))] H) (hD : va_D A [(a_0, .inr (12, [.int i_1, .ref a_1, .ref a_2, .ref a_3, .ref a_4, .ref a_5, .int v24, .int i_3, .int i_4, .int i_5, .int i_6, .long j_0, .int i_7, .int i_8, .int i_9, .int i_10, .ref a_6, .ref a_7, .ref a_8, .ref a_9, .ref a_10, .ref a_11, .ref a_12, .ref a_13, .ref a_14, .ref a_15, .ref a_16, .ref a_17, .ref a_18, .int i_11, .int i_12, .int i_13, .int i_14, .int i_15, .int i_16, .ref a_19, .int i_17, .ref a_20])), (a_5, .inl (cy 0, 600, .inl g23))]) hS
          refine lv_iinc (v := (-8)) (lv' := [(2, .int (-8)), (0, .ref a_0), (1, .int i_0)]) hx hb dX12_four_30 hl (k := 0) rfl (by decide) (by decide) rfl ?_
          clear hl
          clear ls
          intro ls hl
          refine lv_goto (tgt := 3) hx hb dX12_four_33 (by decide) ?_
          refine lv_iload_n hx hb dX12_four_3 rfl (lv_at hl 0 rfl) ?_
          refine lv_if_lt (tgt := 36) hx hb dX12_four_4 (by decide) (fun c25 => ?_) (fun c25 => ?_)
          · subst hAe
            rw [hQ]
            exact W.vret hx hb hr (fun t ht hW => ⟨⟨(v24, g23), rfl, ⟨rv24, rg23⟩, by rw [ht]; exact hP, hK.warm hW, hD⟩, hS.F ht⟩) hS.2.2 dX12_four_36
          · have q26 := mm_leL (mm_nlt c25) mm_k0 mm_km8
            exact mm_no q26 (by decide)

set_option maxHeartbeats 4000000 in
set_option maxRecDepth 100000 in
theorem M6_X12_feed (l : Launch) (G : va_G) (cy : Nat → ClassId) (sz : Nat) (a_0 : Nat) (i_0 : Int32) (i_1 : Int32) (i_2 : Int32) (i_3 : Int32) (i_4 : Int32) (i_5 : Int32) (a_1 : Nat) (a_2 : Nat) (a_3 : Nat) (a_4 : Nat) (a_5 : Nat) (i_6 : Int32) (i_7 : Int32) (i_8 : Int32) (i_9 : Int32) (i_10 : Int32) (j_0 : Int64) (i_11 : Int32) (i_12 : Int32) (i_13 : Int32) (i_14 : Int32) (a_6 : Nat) (a_7 : Nat) (a_8 : Nat) (a_9 : Nat) (a_10 : Nat) (a_11 : Nat) (a_12 : Nat) (a_13 : Nat) (a_14 : Nat) (a_15 : Nat) (a_16 : Nat) (a_17 : Nat) (a_18 : Nat) (i_15 : Int32) (i_16 : Int32) (i_17 : Int32) (i_18 : Int32) (i_19 : Int32) (i_20 : Int32) (a_19 : Nat) (i_21 : Int32) (a_20 : Nat) (f_0 : Nat → Int32) (h0 : mm_rg i_6 0 600) (h1 : mm_ar f_0 (-128) 127)  : mm_CI l yX12_feed (mm_ws yX12_feed cX12_feed 6 (some .int)) ({ frames := 1, cells := 0, slots := 0, locals := 22 } : Room) G cy sz [(a_0, .inr (12, [.int i_5, .ref a_1, .ref a_2, .ref a_3, .ref a_4, .ref a_5, .int i_6, .int i_7, .int i_8, .int i_9, .int i_10, .long j_0, .int i_11, .int i_12, .int i_13, .int i_14, .ref a_6, .ref a_7, .ref a_8, .ref a_9, .ref a_10, .ref a_11, .ref a_12, .ref a_13, .ref a_14, .ref a_15, .ref a_16, .ref a_17, .ref a_18, .int i_15, .int i_16, .int i_17, .int i_18, .int i_19, .int i_20, .ref a_19, .int i_21, .ref a_20])), (a_5, .inl (cy 0, 600, .inl f_0))] [.ref a_0, .int i_0, .int i_1, .int i_2, .int i_3, .int i_4] (fun u : Int32 × (Nat → Int32) => [(a_0, .inr (12, [.int 0, .ref a_1, .ref a_2, .ref a_3, .ref a_4, .ref a_5, .int u.1, .int i_7, .int i_8, .int i_9, .int i_10, .long j_0, .int i_11, .int i_12, .int i_13, .int i_14, .ref a_6, .ref a_7, .ref a_8, .ref a_9, .ref a_10, .ref a_11, .ref a_12, .ref a_13, .ref a_14, .ref a_15, .ref a_16, .ref a_17, .ref a_18, .int i_15, .int i_16, .int i_17, .int i_18, .int i_19, .int i_20, .ref a_19, .int i_21, .ref a_20])), (a_5, .inl (cy 0, 600, .inl u.2))]) (fun (r : Int32) (u : Int32 × (Nat → Int32)) => mm_rg u.1 20 600 ∧ mm_ar u.2 (-128) 127 ∧ mm_rg r (-1) 600) 0 0 := by
  refine mm_begin (lv := [(0, .ref a_0), (1, .int i_0), (2, .int i_1), (3, .int i_2), (4, .int i_3), (5, .int i_4)]) (by decide) (Nat.le_of_ble_eq_true rfl) rfl ?_
  intro p e s m below meth c A ls R args Q H locs hRe hQ hAe hx hb hr hlocks hml hown hnm hts hsz hA hS hP hK hD hZ hl
  have hRf : R.frames = 1 := by rw [hRe]
  have hRl : R.locals = 22 := by rw [hRe]
  have hRc : R.cells = 0 := by rw [hRe]
  have hRs : R.slots = 0 := by rw [hRe]
  refine lv_aload_n hx hb dX12_feed_0 rfl (lv_at hl 0 rfl) ?_
  refine lv_iconst (v := 0) hx hb dX12_feed_1 (by decide) ?_
  refine va_put (D := G) (ci := 12) (v := .int 0) (ty := tyX12 0) (C := RX12) (T := TX12) (N := 38) hx hb hts (mm_i inlX12) tyX12 tyX12_ok nmX12 hown hK.1 hP hD hS 0 rfl rfl 0 (by decide) (mm_h hts mm_w177) (fun _ h9 => h9) rfl (tyX12_ok 0 (by decide)) rfl rfl (Nat.le_of_ble_eq_true rfl) dX12_feed_2 ?_
  clear hP hD hS
  clear H locs
  intro H locs (hP : va_P G vwCl [(a_0, .inr (12, [.int 0, .ref a_1, .ref a_2, .ref a_3, .ref a_4, .ref a_5, .int i_6, .int i_7, .int i_8, .int i_9, .int i_10, .long j_0, .int i_11, .int i_12, .int i_13, .int i_14, .ref a_6, .ref a_7, .ref a_8, .ref a_9, .ref a_10, .ref a_11, .ref a_12, .ref a_13, .ref a_14, .ref a_15, .ref a_16, .ref a_17, .ref a_18, .int i_15, .int i_16, .int i_17, .int i_18, .int i_19, .int i_20, .ref a_19, .int i_21, .ref a_20])), (a_5, .inl (cy 0, 600, .inl f_0))] H) (hD : va_D A [(a_0, .inr (12, [.int 0, .ref a_1, .ref a_2, .ref a_3, .ref a_4, .ref a_5, .int i_6, .int i_7, .int i_8, .int i_9, .int i_10, .long j_0, .int i_11, .int i_12, .int i_13, .int i_14, .ref a_6, .ref a_7, .ref a_8, .ref a_9, .ref a_10, .ref a_11, .ref a_12, .ref a_13, .ref a_14, .ref a_15, .ref a_16, .ref a_17, .ref a_18, .int i_15, .int i_16, .int i_17, .int i_18, .int i_19, .int i_20, .ref a_19, .int i_21, .ref a_20])), (a_5, .inl (cy 0, 600, .inl f_0))]) hS
  refine lv_aload_n hx hb dX12_feed_5 rfl (lv_at hl 0 rfl) ?_
  refine va_get (D := G) (ci := 12) (v := .int i_6) (C := RX12) (T := TX12) (N := 38) hx hb hts (mm_i inlX12) hown hK.1 hP 0 rfl rfl 6 (by decide) (mm_h hts mm_w178) (fun _ h9 => h9) rfl dX12_feed_6 ?_
  refine lv_bipush (v := 20) hx hb dX12_feed_9 (by decide) ?_
  refine lv_iadd hx hb dX12_feed_11 ?_
  refine lv_topi (fun v1 ev1 => ?_)
  have rv1 : mm_rg v1 20 620 := mm_add ev1 h0 mm_k20 (by decide) (by decide)
  have tv1 := mm_addEc ev1 h0 mm_k20 (by decide) (k := 20) (by decide)
  refine lv_sipush (v := 600) hx hb dX12_feed_12 (by decide) ?_
  refine lv_icmp_le (tgt := 20) hx hb dX12_feed_15 (by decide) (fun c2 => ?_) (fun c2 => ?_)
  · have q3 := mm_leL (mm_le c2) rv1 mm_k600
    have q4 : mm_rg i_6 0 580 := mm_unadd tv1 q3 h0 (by decide) (by decide)
    refine lv_aload_n hx hb dX12_feed_20 rfl (lv_at hl 0 rfl) ?_
    refine lv_iload_n hx hb dX12_feed_21 rfl (lv_at hl 1 rfl) ?_
    refine mm_finv (va_runV (As := [.int i_0]) (rest := []) ⟨hx, hb, hml, hown, hts⟩ (M1_X12_four l G cy H.size a_0 i_0 0 a_1 a_2 a_3 a_4 a_5 i_6 i_7 i_8 i_9 i_10 j_0 i_11 i_12 i_13 i_14 a_6 a_7 a_8 a_9 a_10 a_11 a_12 a_13 a_14 a_15 a_16 a_17 a_18 i_15 i_16 i_17 i_18 i_19 i_20 a_19 i_21 a_20 f_0 q4 h1) (cwV 1 hts (mm_gV mm_w179 mm_w180 mm_w181 mm_w5 mm_w182) rfl rfl rfl hd_X12_four ⟨by rw [hRf]; exact Nat.le_of_ble_eq_true rfl, by rw [hRl]; exact Nat.le_of_ble_eq_true rfl⟩) (mm_preV hK hZ hS hA hP hD [0, 1] rfl rfl 0 rfl rfl rfl) rfl rfl hl.1 rfl (lv_room (Nat.le_of_ble_eq_true rfl)) dX12_feed_22 ⟨by rw [hRc]; exact Nat.le_of_ble_eq_true rfl, by rw [hRs]; exact Nat.le_of_ble_eq_true rfl⟩) hP hD hS hA (fun u : Int32 × (Nat → Int32) => [(a_0, .inr (12, [.int 0, .ref a_1, .ref a_2, .ref a_3, .ref a_4, .ref a_5, .int u.1, .int i_7, .int i_8, .int i_9, .int i_10, .long j_0, .int i_11, .int i_12, .int i_13, .int i_14, .ref a_6, .ref a_7, .ref a_8, .ref a_9, .ref a_10, .ref a_11, .ref a_12, .ref a_13, .ref a_14, .ref a_15, .ref a_16, .ref a_17, .ref a_18, .int i_15, .int i_16, .int i_17, .int i_18, .int i_19, .int i_20, .ref a_19, .int i_21, .ref a_20])), (a_5, .inl (cy 0, 600, .inl u.2))]) [0, 1] [] (n := 2) (fun _ => rfl) (by decide +kernel) (by decide +kernel) rfl (fun _ => rfl) (wr := []) rfl (fun _ => rfl) (fun _ => rfl) ?_
    clear hP hD hS
    clear H locs
    intro u
    obtain ⟨n5, n6⟩ := u
    intro H locs hw (hP : va_P G vwCl [(a_0, .inr (12, [.int 0, .ref a_1, .ref a_2, .ref a_3, .ref a_4, .ref a_5, .int n5, .int i_7, .int i_8, .int i_9, .int i_10, .long j_0, .int i_11, .int i_12, .int i_13, .int i_14, .ref a_6, .ref a_7, .ref a_8, .ref a_9, .ref a_10, .ref a_11, .ref a_12, .ref a_13, .ref a_14, .ref a_15, .ref a_16, .ref a_17, .ref a_18, .int i_15, .int i_16, .int i_17, .int i_18, .int i_19, .int i_20, .ref a_19, .int i_21, .ref a_20])), (a_5, .inl (cy 0, 600, .inl n6))] H) (hD : va_D A [(a_0, .inr (12, [.int 0, .ref a_1, .ref a_2, .ref a_3, .ref a_4, .ref a_5, .int n5, .int i_7, .int i_8, .int i_9, .int i_10, .long j_0, .int i_11, .int i_12, .int i_13, .int i_14, .ref a_6, .ref a_7, .ref a_8, .ref a_9, .ref a_10, .ref a_11, .ref a_12, .ref a_13, .ref a_14, .ref a_15, .ref a_16, .ref a_17, .ref a_18, .int i_15, .int i_16, .int i_17, .int i_18, .int i_19, .int i_20, .ref a_19, .int i_21, .ref a_20])), (a_5, .inl (cy 0, 600, .inl n6))]) hS
    obtain ⟨w7, w8⟩ := hw
    refine lv_aload_n hx hb dX12_feed_25 rfl (lv_at hl 0 rfl) ?_
    refine lv_iload_n hx hb dX12_feed_26 rfl (lv_at hl 2 rfl) ?_
    refine mm_finv (va_runV (As := [.int i_1]) (rest := []) ⟨hx, hb, hml, hown, hts⟩ (M2_X12_four l G cy H.size a_0 i_1 0 a_1 a_2 a_3 a_4 a_5 n5 i_7 i_8 i_9 i_10 j_0 i_11 i_12 i_13 i_14 a_6 a_7 a_8 a_9 a_10 a_11 a_12 a_13 a_14 a_15 a_16 a_17 a_18 i_15 i_16 i_17 i_18 i_19 i_20 a_19 i_21 a_20 n6 w7 w8) (cwV 1 hts (mm_gV mm_w179 mm_w180 mm_w181 mm_w5 mm_w182) rfl rfl rfl hd_X12_four ⟨by rw [hRf]; exact Nat.le_of_ble_eq_true rfl, by rw [hRl]; exact Nat.le_of_ble_eq_true rfl⟩) (mm_preV hK hZ hS hA hP hD [0, 1] rfl rfl 0 rfl rfl rfl) rfl rfl hl.1 rfl (lv_room (Nat.le_of_ble_eq_true rfl)) dX12_feed_27 ⟨by rw [hRc]; exact Nat.le_of_ble_eq_true rfl, by rw [hRs]; exact Nat.le_of_ble_eq_true rfl⟩) hP hD hS hA (fun u : Int32 × (Nat → Int32) => [(a_0, .inr (12, [.int 0, .ref a_1, .ref a_2, .ref a_3, .ref a_4, .ref a_5, .int u.1, .int i_7, .int i_8, .int i_9, .int i_10, .long j_0, .int i_11, .int i_12, .int i_13, .int i_14, .ref a_6, .ref a_7, .ref a_8, .ref a_9, .ref a_10, .ref a_11, .ref a_12, .ref a_13, .ref a_14, .ref a_15, .ref a_16, .ref a_17, .ref a_18, .int i_15, .int i_16, .int i_17, .int i_18, .int i_19, .int i_20, .ref a_19, .int i_21, .ref a_20])), (a_5, .inl (cy 0, 600, .inl u.2))]) [0, 1] [] (n := 2) (fun _ => rfl) (by decide +kernel) (by decide +kernel) rfl (fun _ => rfl) (wr := []) rfl (fun _ => rfl) (fun _ => rfl) ?_
    clear hP hD hS
    clear H locs
    intro u
    obtain ⟨n9, n10⟩ := u
    intro H locs hw (hP : va_P G vwCl [(a_0, .inr (12, [.int 0, .ref a_1, .ref a_2, .ref a_3, .ref a_4, .ref a_5, .int n9, .int i_7, .int i_8, .int i_9, .int i_10, .long j_0, .int i_11, .int i_12, .int i_13, .int i_14, .ref a_6, .ref a_7, .ref a_8, .ref a_9, .ref a_10, .ref a_11, .ref a_12, .ref a_13, .ref a_14, .ref a_15, .ref a_16, .ref a_17, .ref a_18, .int i_15, .int i_16, .int i_17, .int i_18, .int i_19, .int i_20, .ref a_19, .int i_21, .ref a_20])), (a_5, .inl (cy 0, 600, .inl n10))] H) (hD : va_D A [(a_0, .inr (12, [.int 0, .ref a_1, .ref a_2, .ref a_3, .ref a_4, .ref a_5, .int n9, .int i_7, .int i_8, .int i_9, .int i_10, .long j_0, .int i_11, .int i_12, .int i_13, .int i_14, .ref a_6, .ref a_7, .ref a_8, .ref a_9, .ref a_10, .ref a_11, .ref a_12, .ref a_13, .ref a_14, .ref a_15, .ref a_16, .ref a_17, .ref a_18, .int i_15, .int i_16, .int i_17, .int i_18, .int i_19, .int i_20, .ref a_19, .int i_21, .ref a_20])), (a_5, .inl (cy 0, 600, .inl n10))]) hS
    obtain ⟨w11, w12⟩ := hw
    refine lv_aload_n hx hb dX12_feed_30 rfl (lv_at hl 0 rfl) ?_
    refine lv_iload_n hx hb dX12_feed_31 rfl (lv_at hl 3 rfl) ?_
    refine mm_finv (va_runV (As := [.int i_2]) (rest := []) ⟨hx, hb, hml, hown, hts⟩ (M3_X12_four l G cy H.size a_0 i_2 0 a_1 a_2 a_3 a_4 a_5 n9 i_7 i_8 i_9 i_10 j_0 i_11 i_12 i_13 i_14 a_6 a_7 a_8 a_9 a_10 a_11 a_12 a_13 a_14 a_15 a_16 a_17 a_18 i_15 i_16 i_17 i_18 i_19 i_20 a_19 i_21 a_20 n10 w11 w12) (cwV 1 hts (mm_gV mm_w179 mm_w180 mm_w181 mm_w5 mm_w182) rfl rfl rfl hd_X12_four ⟨by rw [hRf]; exact Nat.le_of_ble_eq_true rfl, by rw [hRl]; exact Nat.le_of_ble_eq_true rfl⟩) (mm_preV hK hZ hS hA hP hD [0, 1] rfl rfl 0 rfl rfl rfl) rfl rfl hl.1 rfl (lv_room (Nat.le_of_ble_eq_true rfl)) dX12_feed_32 ⟨by rw [hRc]; exact Nat.le_of_ble_eq_true rfl, by rw [hRs]; exact Nat.le_of_ble_eq_true rfl⟩) hP hD hS hA (fun u : Int32 × (Nat → Int32) => [(a_0, .inr (12, [.int 0, .ref a_1, .ref a_2, .ref a_3, .ref a_4, .ref a_5, .int u.1, .int i_7, .int i_8, .int i_9, .int i_10, .long j_0, .int i_11, .int i_12, .int i_13, .int i_14, .ref a_6, .ref a_7, .ref a_8, .ref a_9, .ref a_10, .ref a_11, .ref a_12, .ref a_13, .ref a_14, .ref a_15, .ref a_16, .ref a_17, .ref a_18, .int i_15, .int i_16, .int i_17, .int i_18, .int i_19, .int i_20, .ref a_19, .int i_21, .ref a_20])), (a_5, .inl (cy 0, 600, .inl u.2))]) [0, 1] [] (n := 2) (fun _ => rfl) (by decide +kernel) (by decide +kernel) rfl (fun _ => rfl) (wr := []) rfl (fun _ => rfl) (fun _ => rfl) ?_
    clear hP hD hS
    clear H locs
    intro u
    obtain ⟨n13, n14⟩ := u
    intro H locs hw (hP : va_P G vwCl [(a_0, .inr (12, [.int 0, .ref a_1, .ref a_2, .ref a_3, .ref a_4, .ref a_5, .int n13, .int i_7, .int i_8, .int i_9, .int i_10, .long j_0, .int i_11, .int i_12, .int i_13, .int i_14, .ref a_6, .ref a_7, .ref a_8, .ref a_9, .ref a_10, .ref a_11, .ref a_12, .ref a_13, .ref a_14, .ref a_15, .ref a_16, .ref a_17, .ref a_18, .int i_15, .int i_16, .int i_17, .int i_18, .int i_19, .int i_20, .ref a_19, .int i_21, .ref a_20])), (a_5, .inl (cy 0, 600, .inl n14))] H) (hD : va_D A [(a_0, .inr (12, [.int 0, .ref a_1, .ref a_2, .ref a_3, .ref a_4, .ref a_5, .int n13, .int i_7, .int i_8, .int i_9, .int i_10, .long j_0, .int i_11, .int i_12, .int i_13, .int i_14, .ref a_6, .ref a_7, .ref a_8, .ref a_9, .ref a_10, .ref a_11, .ref a_12, .ref a_13, .ref a_14, .ref a_15, .ref a_16, .ref a_17, .ref a_18, .int i_15, .int i_16, .int i_17, .int i_18, .int i_19, .int i_20, .ref a_19, .int i_21, .ref a_20])), (a_5, .inl (cy 0, 600, .inl n14))]) hS
    obtain ⟨w15, w16⟩ := hw
    refine lv_aload_n hx hb dX12_feed_35 rfl (lv_at hl 0 rfl) ?_
    refine lv_iload hx hb dX12_feed_36 (lv_at hl 4 rfl) ?_
    refine mm_finv (va_runV (As := [.int i_3]) (rest := []) ⟨hx, hb, hml, hown, hts⟩ (M4_X12_four l G cy H.size a_0 i_3 0 a_1 a_2 a_3 a_4 a_5 n13 i_7 i_8 i_9 i_10 j_0 i_11 i_12 i_13 i_14 a_6 a_7 a_8 a_9 a_10 a_11 a_12 a_13 a_14 a_15 a_16 a_17 a_18 i_15 i_16 i_17 i_18 i_19 i_20 a_19 i_21 a_20 n14 w15 w16) (cwV 1 hts (mm_gV mm_w179 mm_w180 mm_w181 mm_w5 mm_w182) rfl rfl rfl hd_X12_four ⟨by rw [hRf]; exact Nat.le_of_ble_eq_true rfl, by rw [hRl]; exact Nat.le_of_ble_eq_true rfl⟩) (mm_preV hK hZ hS hA hP hD [0, 1] rfl rfl 0 rfl rfl rfl) rfl rfl hl.1 rfl (lv_room (Nat.le_of_ble_eq_true rfl)) dX12_feed_38 ⟨by rw [hRc]; exact Nat.le_of_ble_eq_true rfl, by rw [hRs]; exact Nat.le_of_ble_eq_true rfl⟩) hP hD hS hA (fun u : Int32 × (Nat → Int32) => [(a_0, .inr (12, [.int 0, .ref a_1, .ref a_2, .ref a_3, .ref a_4, .ref a_5, .int u.1, .int i_7, .int i_8, .int i_9, .int i_10, .long j_0, .int i_11, .int i_12, .int i_13, .int i_14, .ref a_6, .ref a_7, .ref a_8, .ref a_9, .ref a_10, .ref a_11, .ref a_12, .ref a_13, .ref a_14, .ref a_15, .ref a_16, .ref a_17, .ref a_18, .int i_15, .int i_16, .int i_17, .int i_18, .int i_19, .int i_20, .ref a_19, .int i_21, .ref a_20])), (a_5, .inl (cy 0, 600, .inl u.2))]) [0, 1] [] (n := 2) (fun _ => rfl) (by decide +kernel) (by decide +kernel) rfl (fun _ => rfl) (wr := []) rfl (fun _ => rfl) (fun _ => rfl) ?_
    clear hP hD hS
    clear H locs
    intro u
    obtain ⟨n17, n18⟩ := u
    intro H locs hw (hP : va_P G vwCl [(a_0, .inr (12, [.int 0, .ref a_1, .ref a_2, .ref a_3, .ref a_4, .ref a_5, .int n17, .int i_7, .int i_8, .int i_9, .int i_10, .long j_0, .int i_11, .int i_12, .int i_13, .int i_14, .ref a_6, .ref a_7, .ref a_8, .ref a_9, .ref a_10, .ref a_11, .ref a_12, .ref a_13, .ref a_14, .ref a_15, .ref a_16, .ref a_17, .ref a_18, .int i_15, .int i_16, .int i_17, .int i_18, .int i_19, .int i_20, .ref a_19, .int i_21, .ref a_20])), (a_5, .inl (cy 0, 600, .inl n18))] H) (hD : va_D A [(a_0, .inr (12, [.int 0, .ref a_1, .ref a_2, .ref a_3, .ref a_4, .ref a_5, .int n17, .int i_7, .int i_8, .int i_9, .int i_10, .long j_0, .int i_11, .int i_12, .int i_13, .int i_14, .ref a_6, .ref a_7, .ref a_8, .ref a_9, .ref a_10, .ref a_11, .ref a_12, .ref a_13, .ref a_14, .ref a_15, .ref a_16, .ref a_17, .ref a_18, .int i_15, .int i_16, .int i_17, .int i_18, .int i_19, .int i_20, .ref a_19, .int i_21, .ref a_20])), (a_5, .inl (cy 0, 600, .inl n18))]) hS
    obtain ⟨w19, w20⟩ := hw
    refine lv_aload_n hx hb dX12_feed_41 rfl (lv_at hl 0 rfl) ?_
    refine lv_iload hx hb dX12_feed_42 (lv_at hl 5 rfl) ?_
    refine mm_finv (va_runV (As := [.int i_4]) (rest := []) ⟨hx, hb, hml, hown, hts⟩ (M5_X12_four l G cy H.size a_0 i_4 0 a_1 a_2 a_3 a_4 a_5 n17 i_7 i_8 i_9 i_10 j_0 i_11 i_12 i_13 i_14 a_6 a_7 a_8 a_9 a_10 a_11 a_12 a_13 a_14 a_15 a_16 a_17 a_18 i_15 i_16 i_17 i_18 i_19 i_20 a_19 i_21 a_20 n18 w19 w20) (cwV 1 hts (mm_gV mm_w179 mm_w180 mm_w181 mm_w5 mm_w182) rfl rfl rfl hd_X12_four ⟨by rw [hRf]; exact Nat.le_of_ble_eq_true rfl, by rw [hRl]; exact Nat.le_of_ble_eq_true rfl⟩) (mm_preV hK hZ hS hA hP hD [0, 1] rfl rfl 0 rfl rfl rfl) rfl rfl hl.1 rfl (lv_room (Nat.le_of_ble_eq_true rfl)) dX12_feed_44 ⟨by rw [hRc]; exact Nat.le_of_ble_eq_true rfl, by rw [hRs]; exact Nat.le_of_ble_eq_true rfl⟩) hP hD hS hA (fun u : Int32 × (Nat → Int32) => [(a_0, .inr (12, [.int 0, .ref a_1, .ref a_2, .ref a_3, .ref a_4, .ref a_5, .int u.1, .int i_7, .int i_8, .int i_9, .int i_10, .long j_0, .int i_11, .int i_12, .int i_13, .int i_14, .ref a_6, .ref a_7, .ref a_8, .ref a_9, .ref a_10, .ref a_11, .ref a_12, .ref a_13, .ref a_14, .ref a_15, .ref a_16, .ref a_17, .ref a_18, .int i_15, .int i_16, .int i_17, .int i_18, .int i_19, .int i_20, .ref a_19, .int i_21, .ref a_20])), (a_5, .inl (cy 0, 600, .inl u.2))]) [0, 1] [] (n := 2) (fun _ => rfl) (by decide +kernel) (by decide +kernel) rfl (fun _ => rfl) (wr := []) rfl (fun _ => rfl) (fun _ => rfl) ?_
    clear hP hD hS
    clear H locs
    intro u
    obtain ⟨n21, n22⟩ := u
    intro H locs hw (hP : va_P G vwCl [(a_0, .inr (12, [.int 0, .ref a_1, .ref a_2, .ref a_3, .ref a_4, .ref a_5, .int n21, .int i_7, .int i_8, .int i_9, .int i_10, .long j_0, .int i_11, .int i_12, .int i_13, .int i_14, .ref a_6, .ref a_7, .ref a_8, .ref a_9, .ref a_10, .ref a_11, .ref a_12, .ref a_13, .ref a_14, .ref a_15, .ref a_16, .ref a_17, .ref a_18, .int i_15, .int i_16, .int i_17, .int i_18, .int i_19, .int i_20, .ref a_19, .int i_21, .ref a_20])), (a_5, .inl (cy 0, 600, .inl n22))] H) (hD : va_D A [(a_0, .inr (12, [.int 0, .ref a_1, .ref a_2, .ref a_3, .ref a_4, .ref a_5, .int n21, .int i_7, .int i_8, .int i_9, .int i_10, .long j_0, .int i_11, .int i_12, .int i_13, .int i_14, .ref a_6, .ref a_7, .ref a_8, .ref a_9, .ref a_10, .ref a_11, .ref a_12, .ref a_13, .ref a_14, .ref a_15, .ref a_16, .ref a_17, .ref a_18, .int i_15, .int i_16, .int i_17, .int i_18, .int i_19, .int i_20, .ref a_19, .int i_21, .ref a_20])), (a_5, .inl (cy 0, 600, .inl n22))]) hS
    obtain ⟨w23, w24⟩ := hw
    refine lv_aload_n hx hb dX12_feed_47 rfl (lv_at hl 0 rfl) ?_
    refine va_get (D := G) (ci := 12) (v := .int n21) (C := RX12) (T := TX12) (N := 38) hx hb hts (mm_i inlX12) hown hK.1 hP 0 rfl rfl 6 (by decide) (mm_h hts mm_w178) (fun _ h9 => h9) rfl dX12_feed_48 ?_
    subst hAe
    rw [hQ]
    exact W.iret (v := n21) hx hb hr (fun t ht hW => ⟨⟨n21, (n21, n22), rfl, ⟨w23, w24, (mm_wk w23 (by decide))⟩, by rw [ht]; exact hP, hK.warm hW, hD⟩, hS.F ht⟩) hS.2.2 dX12_feed_51
  · have q25 := mm_ltR (lo := 601) (mm_nle c2) mm_k600 rv1 (by decide)
    have q26 : mm_rg i_6 581 600 := mm_unadd tv1 q25 h0 (by decide) (by decide)
    refine lv_iconst (v := (-1)) hx hb dX12_feed_18 (by decide) ?_
    subst hAe
    rw [hQ]
    exact W.iret (v := (-1)) hx hb hr (fun t ht hW => ⟨⟨(-1), (i_6, f_0), rfl, ⟨(mm_wk q26 (by decide)), h1, (mm_wk mm_km1 (by decide))⟩, by rw [ht]; exact hP, hK.warm hW, hD⟩, hS.F ht⟩) hS.2.2 dX12_feed_19

set_option maxHeartbeats 4000000 in
set_option maxRecDepth 100000 in
theorem M7_X12_in (l : Launch) (G : va_G) (cy : Nat → ClassId) (sz : Nat) (j_0 : Int64) (j_1 : Int64)   : mm_CI l yX12_in (mm_ws yX12_in cX12_in 6 (some .boolean)) ({ frames := 0, cells := 0, slots := 0, locals := 0 } : Room) G cy sz [] [.long j_0, .long 0, .long j_1] (fun u : Unit => []) (fun (r : Int32) (u : Unit) => ((0 = r ∧ mm_rl j_0 (-9223372036854775808) 9223372036854775807) ∨ (1 = r ∧ mm_rl j_0 0 9223372036854775807 ∧ mm_rl j_1 0 9223372036854775807 ∧ (j_0 : Int64).toInt ≤ (j_1 : Int64).toInt ∧ (0 : Int64).toInt ≤ (j_0 : Int64).toInt))) 0 0 := by
  refine mm_begin (lv := [(0, .long j_0), (2, .long 0), (4, .long j_1)]) (by decide) (Nat.le_of_ble_eq_true rfl) rfl ?_
  intro p e s m below meth c A ls R args Q H locs hRe hQ hAe hx hb hr hlocks hml hown hnm hts hsz hA hS hP hK hD hZ hl
  have hRf : R.frames = 0 := by rw [hRe]
  have hRl : R.locals = 0 := by rw [hRe]
  have hRc : R.cells = 0 := by rw [hRe]
  have hRs : R.slots = 0 := by rw [hRe]
  refine lv_lload_n hx hb dX12_in_0 rfl (lv_at hl 0 rfl) ?_
  refine lv_lload_n hx hb dX12_in_1 rfl (lv_at hl 1 rfl) ?_
  refine W.lcmp hx hb dX12_in_2 ?_
  refine lv_topi (fun v1 ev1 => ?_)
  refine lv_if_lt (tgt := 17) hx hb dX12_in_3 (by decide) (fun c2 => ?_) (fun c2 => ?_)
  · have q3 := mm_ltLl (h := (-1)) (mm_cmp_lt ev1 c2) (mm_topl j_0) mm_kl0 (by decide)
    refine lv_iconst (v := 0) hx hb dX12_in_17 (by decide) ?_
    subst hAe
    rw [hQ]
    exact W.zret (v := 0) hx hb hr rfl (fun t ht hW => ⟨⟨0, (), rfl, (Or.inl ⟨rfl, (mm_wkl q3 (by decide))⟩), by rw [ht]; exact hP, hK.warm hW, hD⟩, hS.F ht⟩) hS.2.2 dX12_in_18
  · have q4 := mm_leRl (mm_cmp_ge ev1 (mm_n_lt c2)) mm_kl0 (mm_topl j_0)
    refine lv_lload_n hx hb dX12_in_6 rfl (lv_at hl 0 rfl) ?_
    refine lv_lload hx hb dX12_in_7 (lv_at hl 2 rfl) ?_
    refine W.lcmp hx hb dX12_in_9 ?_
    refine lv_topi (fun v5 ev5 => ?_)
    refine lv_if_gt (tgt := 17) hx hb dX12_in_10 (by decide) (fun c6 => ?_) (fun c6 => ?_)
    · have q7 := mm_ltLl (h := 9223372036854775806) (mm_cmp_gt ev5 c6) (mm_topl j_1) q4 (by decide)
      refine lv_iconst (v := 0) hx hb dX12_in_17 (by decide) ?_
      subst hAe
      rw [hQ]
      exact W.zret (v := 0) hx hb hr rfl (fun t ht hW => ⟨⟨0, (), rfl, (Or.inl ⟨rfl, (mm_wkl q4 (by decide))⟩), by rw [ht]; exact hP, hK.warm hW, hD⟩, hS.F ht⟩) hS.2.2 dX12_in_18
    · have q8 := mm_leRl (mm_cmp_le ev5 (mm_n_gt c6)) q4 (mm_topl j_1)
      refine lv_iconst (v := 1) hx hb dX12_in_13 (by decide) ?_
      refine lv_goto (tgt := 18) hx hb dX12_in_14 (by decide) ?_
      have w9 : (j_0 : Int64).toInt ≤ (j_1 : Int64).toInt := (mm_cmp_le ev5 (mm_n_gt c6))
      have w10 : (0 : Int64).toInt ≤ (j_0 : Int64).toInt := (mm_cmp_ge ev1 (mm_n_lt c2))
      subst hAe
      rw [hQ]
      exact W.zret (v := 1) hx hb hr rfl (fun t ht hW => ⟨⟨1, (), rfl, (Or.inr ⟨rfl, q4, q8, w9, w10⟩), by rw [ht]; exact hP, hK.warm hW, hD⟩, hS.F ht⟩) hS.2.2 dX12_in_18

set_option maxHeartbeats 4000000 in
set_option maxRecDepth 100000 in
theorem M8_X12_end (l : Launch) (G : va_G) (cy : Nat → ClassId) (sz : Nat) (a_0 : Nat) (i_0 : Int32) (i_1 : Int32) (a_1 : Nat) (a_2 : Nat) (a_3 : Nat) (a_4 : Nat) (a_5 : Nat) (i_2 : Int32) (i_3 : Int32) (i_4 : Int32) (i_5 : Int32) (i_6 : Int32) (j_0 : Int64) (i_7 : Int32) (i_8 : Int32) (i_9 : Int32) (i_10 : Int32) (a_6 : Nat) (a_7 : Nat) (a_8 : Nat) (a_9 : Nat) (a_10 : Nat) (a_11 : Nat) (a_12 : Nat) (a_13 : Nat) (a_14 : Nat) (a_15 : Nat) (a_16 : Nat) (a_17 : Nat) (a_18 : Nat) (i_11 : Int32) (i_12 : Int32) (i_13 : Int32) (i_14 : Int32) (i_15 : Int32) (i_16 : Int32) (a_19 : Nat) (i_17 : Int32) (a_20 : Nat) (h0 : mm_rg i_2 0 600)  : mm_CI l yX12_end (mm_ws yX12_end cX12_end 2 (some .int)) ({ frames := 1, cells := 0, slots := 0, locals := 25 } : Room) G cy sz [(a_0, .inr (12, [.int i_1, .ref a_1, .ref a_2, .ref a_3, .ref a_4, .ref a_5, .int i_2, .int i_3, .int i_4, .int i_5, .int i_6, .long j_0, .int i_7, .int i_8, .int i_9, .int i_10, .ref a_6, .ref a_7, .ref a_8, .ref a_9, .ref a_10, .ref a_11, .ref a_12, .ref a_13, .ref a_14, .ref a_15, .ref a_16, .ref a_17, .ref a_18, .int i_11, .int i_12, .int i_13, .int i_14, .int i_15, .int i_16, .ref a_19, .int i_17, .ref a_20]))] [.ref a_0, .int i_0] (fun u : Int32 => [(a_0, .inr (12, [.int 0, .ref a_1, .ref a_2, .ref a_3, .ref a_4, .ref a_5, .int u, .int i_3, .int i_4, .int i_5, .int i_6, .long j_0, .int i_7, .int i_8, .int i_9, .int i_10, .ref a_6, .ref a_7, .ref a_8, .ref a_9, .ref a_10, .ref a_11, .ref a_12, .ref a_13, .ref a_14, .ref a_15, .ref a_16, .ref a_17, .ref a_18, .int i_11, .int i_12, .int i_13, .int i_14, .int i_15, .int i_16, .ref a_19, .int i_17, .ref a_20]))]) (fun (r : Int32) (u : Int32) => mm_rg u 0 600 ∧ mm_rg r (-1) 600) 0 0 := by
  refine mm_begin (lv := [(0, .ref a_0), (1, .int i_0)]) (by decide) (Nat.le_of_ble_eq_true rfl) rfl ?_
  intro p e s m below meth c A ls R args Q H locs hRe hQ hAe hx hb hr hlocks hml hown hnm hts hsz hA hS hP hK hD hZ hl
  have hRf : R.frames = 1 := by rw [hRe]
  have hRl : R.locals = 25 := by rw [hRe]
  have hRc : R.cells = 0 := by rw [hRe]
  have hRs : R.slots = 0 := by rw [hRe]
  refine lv_aload_n hx hb dX12_end_0 rfl (lv_at hl 0 rfl) ?_
  refine lv_iconst (v := 0) hx hb dX12_end_1 (by decide) ?_
  refine va_put (D := G) (ci := 12) (v := .int 0) (ty := tyX12 0) (C := RX12) (T := TX12) (N := 38) hx hb hts (mm_i inlX12) tyX12 tyX12_ok nmX12 hown hK.1 hP hD hS 0 rfl rfl 0 (by decide) (mm_h hts mm_w177) (fun _ h9 => h9) rfl (tyX12_ok 0 (by decide)) rfl rfl (Nat.le_of_ble_eq_true rfl) dX12_end_2 ?_
  clear hP hD hS
  clear H locs
  intro H locs (hP : va_P G vwCl [(a_0, .inr (12, [.int 0, .ref a_1, .ref a_2, .ref a_3, .ref a_4, .ref a_5, .int i_2, .int i_3, .int i_4, .int i_5, .int i_6, .long j_0, .int i_7, .int i_8, .int i_9, .int i_10, .ref a_6, .ref a_7, .ref a_8, .ref a_9, .ref a_10, .ref a_11, .ref a_12, .ref a_13, .ref a_14, .ref a_15, .ref a_16, .ref a_17, .ref a_18, .int i_11, .int i_12, .int i_13, .int i_14, .int i_15, .int i_16, .ref a_19, .int i_17, .ref a_20]))] H) (hD : va_D A [(a_0, .inr (12, [.int 0, .ref a_1, .ref a_2, .ref a_3, .ref a_4, .ref a_5, .int i_2, .int i_3, .int i_4, .int i_5, .int i_6, .long j_0, .int i_7, .int i_8, .int i_9, .int i_10, .ref a_6, .ref a_7, .ref a_8, .ref a_9, .ref a_10, .ref a_11, .ref a_12, .ref a_13, .ref a_14, .ref a_15, .ref a_16, .ref a_17, .ref a_18, .int i_11, .int i_12, .int i_13, .int i_14, .int i_15, .int i_16, .ref a_19, .int i_17, .ref a_20]))]) hS
  refine lv_iload_n hx hb dX12_end_5 rfl (lv_at hl 1 rfl) ?_
  obtain ⟨v1, ev1⟩ : ∃ y : Int64, y = i_0.toInt64 := ⟨_, rfl⟩
  refine lv_i2l hx hb dX12_end_6 ev1.symm ?_
  have rv1 : mm_rl v1 (-2147483648) 2147483647 := mm_i2l ev1 (mm_top i_0)
  refine lv_lconst (v := 0) hx hb dX12_end_7 (by decide) ?_
  refine lv_aload_n hx hb dX12_end_8 rfl (lv_at hl 0 rfl) ?_
  refine va_get (D := G) (ci := 12) (v := .int i_2) (C := RX12) (T := TX12) (N := 38) hx hb hts (mm_i inlX12) hown hK.1 hP 0 rfl rfl 6 (by decide) (mm_h hts mm_w178) (fun _ h9 => h9) rfl dX12_end_9 ?_
  obtain ⟨v2, ev2⟩ : ∃ y : Int64, y = i_2.toInt64 := ⟨_, rfl⟩
  refine lv_i2l hx hb dX12_end_12 ev2.symm ?_
  have rv2 : mm_rl v2 0 600 := mm_i2l ev2 h0
  refine mm_finir (va_runS (As := [.long v1, .long 0, .long v2]) (rest := []) ⟨hx, hb, hml, hown, hts⟩ (M7_X12_in l G cy H.size v1 v2 ) (va_cwS 3 hts (mm_gS mm_w191 mm_w192 mm_w5 mm_w193) rfl rfl rfl hs_X12_in ⟨by rw [hRf]; exact Nat.le_of_ble_eq_true rfl, by rw [hRl]; exact Nat.le_of_ble_eq_true rfl⟩) (mm_preS hK hZ hS hA hP hD [] rfl rfl) rfl rfl hl.1 rfl (lv_room (Nat.le_of_ble_eq_true rfl)) dX12_end_13 ⟨by rw [hRc]; exact Nat.le_of_ble_eq_true rfl, by rw [hRs]; exact Nat.le_of_ble_eq_true rfl⟩) hP hD hS hA [] rfl (fun _ => rfl) ?_
  clear hP hD hS
  clear H locs
  intro v3 _u H locs hw hP hD hS
  rcases hw with ⟨rfl, w4⟩ | ⟨rfl, w5, w6, w7, w8⟩
  · refine lv_if_ne (tgt := 21) hx hb dX12_end_16 (by decide) (fun c9 => ?_) (fun c9 => ?_)
    · exact absurd rfl (mm_ne c9)
    · refine lv_iconst (v := (-1)) hx hb dX12_end_19 (by decide) ?_
      subst hAe
      rw [hQ]
      exact W.iret (v := (-1)) hx hb hr (fun t ht hW => ⟨⟨(-1), i_2, rfl, ⟨h0, (mm_wk mm_km1 (by decide))⟩, by rw [ht]; exact hP, hK.warm hW, hD⟩, hS.F ht⟩) hS.2.2 dX12_end_20
  · have q10 := mm_meetl (lo := 0) (hi := 2147483647) w5 rv1 (by decide)
    have q11 := mm_meet (lo := 0) (hi := 2147483647) (mm_l2x ev1 q10) (mm_top i_0) (by decide)
    have q12 := mm_leLl w7 q10 rv2
    have q13 := mm_meet (lo := 0) (hi := 600) (mm_l2x ev1 q12) q11 (by decide)
    have w14 : (i_0 : Int32).toInt ≤ (i_2 : Int32).toInt := by have := (mm_i2lE ev1); have := (mm_i2lE ev2); have := w7; omega
    refine lv_if_ne (tgt := 21) hx hb dX12_end_16 (by decide) (fun c15 => ?_) (fun c15 => ?_)
    · refine lv_aload_n hx hb dX12_end_21 rfl (lv_at hl 0 rfl) ?_
      refine lv_iload_n hx hb dX12_end_22 rfl (lv_at hl 1 rfl) ?_
      refine va_put (D := G) (ci := 12) (v := .int i_0) (ty := tyX12 6) (C := RX12) (T := TX12) (N := 38) hx hb hts (mm_i inlX12) tyX12 tyX12_ok nmX12 hown hK.1 hP hD hS 0 rfl rfl 6 (by decide) (mm_h hts mm_w178) (fun _ h9 => h9) rfl (tyX12_ok 6 (by decide)) rfl rfl (Nat.le_of_ble_eq_true rfl) dX12_end_23 ?_
      clear hP hD hS
      clear H locs
      intro H locs (hP : va_P G vwCl [(a_0, .inr (12, [.int 0, .ref a_1, .ref a_2, .ref a_3, .ref a_4, .ref a_5, .int i_0, .int i_3, .int i_4, .int i_5, .int i_6, .long j_0, .int i_7, .int i_8, .int i_9, .int i_10, .ref a_6, .ref a_7, .ref a_8, .ref a_9, .ref a_10, .ref a_11, .ref a_12, .ref a_13, .ref a_14, .ref a_15, .ref a_16, .ref a_17, .ref a_18, .int i_11, .int i_12, .int i_13, .int i_14, .int i_15, .int i_16, .ref a_19, .int i_17, .ref a_20]))] H) (hD : va_D A [(a_0, .inr (12, [.int 0, .ref a_1, .ref a_2, .ref a_3, .ref a_4, .ref a_5, .int i_0, .int i_3, .int i_4, .int i_5, .int i_6, .long j_0, .int i_7, .int i_8, .int i_9, .int i_10, .ref a_6, .ref a_7, .ref a_8, .ref a_9, .ref a_10, .ref a_11, .ref a_12, .ref a_13, .ref a_14, .ref a_15, .ref a_16, .ref a_17, .ref a_18, .int i_11, .int i_12, .int i_13, .int i_14, .int i_15, .int i_16, .ref a_19, .int i_17, .ref a_20]))]) hS
      refine lv_iload_n hx hb dX12_end_26 rfl (lv_at hl 1 rfl) ?_
      subst hAe
      rw [hQ]
      exact W.iret (v := i_0) hx hb hr (fun t ht hW => ⟨⟨i_0, i_0, rfl, ⟨q13, (mm_wk q13 (by decide))⟩, by rw [ht]; exact hP, hK.warm hW, hD⟩, hS.F ht⟩) hS.2.2 dX12_end_27
    · exact mm_eqN c15.symm mm_k0 mm_k1 (by decide)

set_option maxHeartbeats 4000000 in
set_option maxRecDepth 100000 in
theorem M9_X12_tells (l : Launch) (G : va_G) (cy : Nat → ClassId) (sz : Nat) (a_0 : Nat) (i_0 : Int32) (a_1 : Nat) (a_2 : Nat) (a_3 : Nat) (a_4 : Nat) (a_5 : Nat) (i_1 : Int32) (i_2 : Int32) (i_3 : Int32) (i_4 : Int32) (i_5 : Int32) (j_0 : Int64) (i_6 : Int32) (i_7 : Int32) (i_8 : Int32) (i_9 : Int32) (a_6 : Nat) (a_7 : Nat) (a_8 : Nat) (a_9 : Nat) (a_10 : Nat) (a_11 : Nat) (a_12 : Nat) (a_13 : Nat) (a_14 : Nat) (a_15 : Nat) (a_16 : Nat) (a_17 : Nat) (a_18 : Nat) (i_10 : Int32) (i_11 : Int32) (i_12 : Int32) (i_13 : Int32) (i_14 : Int32) (i_15 : Int32) (a_19 : Nat) (i_16 : Int32) (a_20 : Nat) (i_17 : Int32) (i_18 : Int32) (i_19 : Int32) (i_20 : Int32) (i_21 : Int32) (i_22 : Int32) (i_23 : Int32) (i_24 : Int32) (i_25 : Int32) (i_26 : Int32) (i_27 : Int32) (i_28 : Int32) (i_29 : Int32) (i_30 : Int32) (i_31 : Int32) (i_32 : Int32) (i_33 : Int32) (i_34 : Int32) (i_35 : Int32) (i_36 : Int32) (i_37 : Int32) (i_38 : Int32) (i_39 : Int32) (i_40 : Int32) (i_41 : Int32) (i_42 : Int32) (i_43 : Int32) (i_44 : Int32) (i_45 : Int32) (i_46 : Int32) (h0 : mm_rg i_17 0 10) (h1 : mm_rg i_18 0 99) (h2 : mm_rg i_19 0 9) (h3 : mm_rg i_20 0 3) (h4 : mm_rg i_21 0 6) (h5 : mm_rg i_22 0 30) (h6 : mm_rg i_23 0 10) (h7 : mm_rg i_24 0 99) (h8 : mm_rg i_25 0 9) (h9 : mm_rg i_26 0 3) (h10 : mm_rg i_27 0 6) (h11 : mm_rg i_28 0 30) (h12 : mm_rg i_29 0 10) (h13 : mm_rg i_30 0 99) (h14 : mm_rg i_31 0 9) (h15 : mm_rg i_32 0 3) (h16 : mm_rg i_33 0 6) (h17 : mm_rg i_34 0 30) (h18 : mm_rg i_35 0 10) (h19 : mm_rg i_36 0 99) (h20 : mm_rg i_37 0 9) (h21 : mm_rg i_38 0 3) (h22 : mm_rg i_39 0 6) (h23 : mm_rg i_40 0 30) (h24 : mm_rg i_41 0 10) (h25 : mm_rg i_42 0 99) (h26 : mm_rg i_43 0 9) (h27 : mm_rg i_44 0 3) (h28 : mm_rg i_45 0 6) (h29 : mm_rg i_46 0 30)  : mm_CV l yX12_tells (mm_ws yX12_tells cX12_tells 3 (none)) ({ frames := 0, cells := 0, slots := 0, locals := 0 } : Room) G cy sz [(a_0, .inr (12, [.int i_0, .ref a_1, .ref a_2, .ref a_3, .ref a_4, .ref a_5, .int i_1, .int i_2, .int i_3, .int i_4, .int i_5, .long j_0, .int i_6, .int i_7, .int i_8, .int i_9, .ref a_6, .ref a_7, .ref a_8, .ref a_9, .ref a_10, .ref a_11, .ref a_12, .ref a_13, .ref a_14, .ref a_15, .ref a_16, .ref a_17, .ref a_18, .int i_10, .int i_11, .int i_12, .int i_13, .int i_14, .int i_15, .ref a_19, .int i_16, .ref a_20])), (a_7, .inl (cy 1, 30, .inl (mm_g [i_17, i_18, i_19, i_20, i_21, i_22, i_23, i_24, i_25, i_26, i_27, i_28, i_29, i_30, i_31, i_32, i_33, i_34, i_35, i_36, i_37, i_38, i_39, i_40, i_41, i_42, i_43, i_44, i_45, i_46])))] [.ref a_0, .int 0, .int 0] (fun u : Unit => [(a_0, .inr (12, [.int i_0, .ref a_1, .ref a_2, .ref a_3, .ref a_4, .ref a_5, .int i_1, .int i_2, .int i_3, .int i_4, .int i_5, .long j_0, .int i_6, .int i_7, .int i_8, .int i_9, .ref a_6, .ref a_7, .ref a_8, .ref a_9, .ref a_10, .ref a_11, .ref a_12, .ref a_13, .ref a_14, .ref a_15, .ref a_16, .ref a_17, .ref a_18, .int i_10, .int i_11, .int i_12, .int i_13, .int i_14, .int i_15, .ref a_19, .int i_16, .ref a_20])), (a_7, .inl (cy 1, 30, .inl (mm_g [i_17, i_18, i_19, i_20, i_21, i_22, i_23, i_24, i_25, i_26, i_27, i_28, i_29, i_30, i_31, i_32, i_33, i_34, i_35, i_36, i_37, i_38, i_39, i_40, 0, i_42, i_43, i_44, i_45, i_46])))]) (fun u : Unit => True) 0 0 := by
  refine mm_begin (lv := [(0, .ref a_0), (1, .int 0), (2, .int 0)]) (by decide) (Nat.le_of_ble_eq_true rfl) rfl ?_
  intro p e s m below meth c A ls R args Q H locs hRe hQ hAe hx hb hr hlocks hml hown hnm hts hsz hA hS hP hK hD hZ hl
  have hRf : R.frames = 0 := by rw [hRe]
  have hRl : R.locals = 0 := by rw [hRe]
  have hRc : R.cells = 0 := by rw [hRe]
  have hRs : R.slots = 0 := by rw [hRe]
  refine lv_aload_n hx hb dX12_tells_0 rfl (lv_at hl 0 rfl) ?_
  refine va_get (D := G) (ci := 12) (v := .ref a_7) (C := RX12) (T := TX12) (N := 38) hx hb hts (mm_i inlX12) hown hK.1 hP 0 rfl rfl 17 (by decide) (mm_h hts mm_w149) (fun _ h9 => h9) rfl dX12_tells_1 ?_
  refine lv_bipush (v := 24) hx hb dX12_tells_4 (by decide) ?_
  refine lv_iload_n hx hb dX12_tells_6 rfl (lv_at hl 1 rfl) ?_
  refine lv_iadd hx hb dX12_tells_7 ?_
  refine lv_topi (fun v1 ev1 => ?_)
  obtain rfl : v1 = 24 := ev1.trans (by decide)
  refine lv_iload_n hx hb dX12_tells_8 rfl (lv_at hl 2 rfl) ?_
  refine va_iast hx hb hK.1 hP hD hS 1 1 rfl rfl (mm_in mm_k24 (by decide)) dX12_tells_9 ?_
  clear hP hD hS
  clear H locs
  rw [show upd (mm_g [i_17, i_18, i_19, i_20, i_21, i_22, i_23, i_24, i_25, i_26, i_27, i_28, i_29, i_30, i_31, i_32, i_33, i_34, i_35, i_36, i_37, i_38, i_39, i_40, i_41, i_42, i_43, i_44, i_45, i_46]) (24 : Int32).toNatClampNeg 0 = (mm_g [i_17, i_18, i_19, i_20, i_21, i_22, i_23, i_24, i_25, i_26, i_27, i_28, i_29, i_30, i_31, i_32, i_33, i_34, i_35, i_36, i_37, i_38, i_39, i_40, 0, i_42, i_43, i_44, i_45, i_46]) from mm_gs2 24 30 (by decide) rfl rfl rfl]
  intro H locs (hP : va_P G vwCl [(a_0, .inr (12, [.int i_0, .ref a_1, .ref a_2, .ref a_3, .ref a_4, .ref a_5, .int i_1, .int i_2, .int i_3, .int i_4, .int i_5, .long j_0, .int i_6, .int i_7, .int i_8, .int i_9, .ref a_6, .ref a_7, .ref a_8, .ref a_9, .ref a_10, .ref a_11, .ref a_12, .ref a_13, .ref a_14, .ref a_15, .ref a_16, .ref a_17, .ref a_18, .int i_10, .int i_11, .int i_12, .int i_13, .int i_14, .int i_15, .ref a_19, .int i_16, .ref a_20])), (a_7, .inl (cy 1, 30, .inl (mm_g [i_17, i_18, i_19, i_20, i_21, i_22, i_23, i_24, i_25, i_26, i_27, i_28, i_29, i_30, i_31, i_32, i_33, i_34, i_35, i_36, i_37, i_38, i_39, i_40, 0, i_42, i_43, i_44, i_45, i_46])))] H) (hD : va_D A [(a_0, .inr (12, [.int i_0, .ref a_1, .ref a_2, .ref a_3, .ref a_4, .ref a_5, .int i_1, .int i_2, .int i_3, .int i_4, .int i_5, .long j_0, .int i_6, .int i_7, .int i_8, .int i_9, .ref a_6, .ref a_7, .ref a_8, .ref a_9, .ref a_10, .ref a_11, .ref a_12, .ref a_13, .ref a_14, .ref a_15, .ref a_16, .ref a_17, .ref a_18, .int i_10, .int i_11, .int i_12, .int i_13, .int i_14, .int i_15, .ref a_19, .int i_16, .ref a_20])), (a_7, .inl (cy 1, 30, .inl (mm_g [i_17, i_18, i_19, i_20, i_21, i_22, i_23, i_24, i_25, i_26, i_27, i_28, i_29, i_30, i_31, i_32, i_33, i_34, i_35, i_36, i_37, i_38, i_39, i_40, 0, i_42, i_43, i_44, i_45, i_46])))]) hS
  subst hAe
  rw [hQ]
  exact W.vret hx hb hr (fun t ht hW => ⟨⟨(), rfl, trivial, by rw [ht]; exact hP, hK.warm hW, hD⟩, hS.F ht⟩) hS.2.2 dX12_tells_10

set_option maxHeartbeats 4000000 in
set_option maxRecDepth 100000 in
theorem M10_X12_tells (l : Launch) (G : va_G) (cy : Nat → ClassId) (sz : Nat) (a_0 : Nat) (i_0 : Int32) (a_1 : Nat) (a_2 : Nat) (a_3 : Nat) (a_4 : Nat) (a_5 : Nat) (i_1 : Int32) (i_2 : Int32) (i_3 : Int32) (i_4 : Int32) (i_5 : Int32) (j_0 : Int64) (i_6 : Int32) (i_7 : Int32) (i_8 : Int32) (i_9 : Int32) (a_6 : Nat) (a_7 : Nat) (a_8 : Nat) (a_9 : Nat) (a_10 : Nat) (a_11 : Nat) (a_12 : Nat) (a_13 : Nat) (a_14 : Nat) (a_15 : Nat) (a_16 : Nat) (a_17 : Nat) (a_18 : Nat) (i_10 : Int32) (i_11 : Int32) (i_12 : Int32) (i_13 : Int32) (i_14 : Int32) (i_15 : Int32) (a_19 : Nat) (i_16 : Int32) (a_20 : Nat) (i_17 : Int32) (i_18 : Int32) (i_19 : Int32) (i_20 : Int32) (i_21 : Int32) (i_22 : Int32) (i_23 : Int32) (i_24 : Int32) (i_25 : Int32) (i_26 : Int32) (i_27 : Int32) (i_28 : Int32) (i_29 : Int32) (i_30 : Int32) (i_31 : Int32) (i_32 : Int32) (i_33 : Int32) (i_34 : Int32) (i_35 : Int32) (i_36 : Int32) (i_37 : Int32) (i_38 : Int32) (i_39 : Int32) (i_40 : Int32) (i_41 : Int32) (i_42 : Int32) (i_43 : Int32) (i_44 : Int32) (i_45 : Int32) (i_46 : Int32) (h0 : mm_rg i_17 0 10) (h1 : mm_rg i_18 0 99) (h2 : mm_rg i_19 0 9) (h3 : mm_rg i_20 0 3) (h4 : mm_rg i_21 0 6) (h5 : mm_rg i_22 0 30) (h6 : mm_rg i_23 0 10) (h7 : mm_rg i_24 0 99) (h8 : mm_rg i_25 0 9) (h9 : mm_rg i_26 0 3) (h10 : mm_rg i_27 0 6) (h11 : mm_rg i_28 0 30) (h12 : mm_rg i_29 0 10) (h13 : mm_rg i_30 0 99) (h14 : mm_rg i_31 0 9) (h15 : mm_rg i_32 0 3) (h16 : mm_rg i_33 0 6) (h17 : mm_rg i_34 0 30) (h18 : mm_rg i_35 0 10) (h19 : mm_rg i_36 0 99) (h20 : mm_rg i_37 0 9) (h21 : mm_rg i_38 0 3) (h22 : mm_rg i_39 0 6) (h23 : mm_rg i_40 0 30) (h24 : mm_rg i_41 0 10) (h25 : mm_rg i_42 0 99) (h26 : mm_rg i_43 0 9) (h27 : mm_rg i_44 0 3) (h28 : mm_rg i_45 0 6) (h29 : mm_rg i_46 0 30)  : mm_CV l yX12_tells (mm_ws yX12_tells cX12_tells 3 (none)) ({ frames := 0, cells := 0, slots := 0, locals := 0 } : Room) G cy sz [(a_0, .inr (12, [.int i_0, .ref a_1, .ref a_2, .ref a_3, .ref a_4, .ref a_5, .int i_1, .int i_2, .int i_3, .int i_4, .int i_5, .long j_0, .int i_6, .int i_7, .int i_8, .int i_9, .ref a_6, .ref a_7, .ref a_8, .ref a_9, .ref a_10, .ref a_11, .ref a_12, .ref a_13, .ref a_14, .ref a_15, .ref a_16, .ref a_17, .ref a_18, .int i_10, .int i_11, .int i_12, .int i_13, .int i_14, .int i_15, .ref a_19, .int i_16, .ref a_20])), (a_7, .inl (cy 1, 30, .inl (mm_g [i_17, i_18, i_19, i_20, i_21, i_22, i_23, i_24, i_25, i_26, i_27, i_28, i_29, i_30, i_31, i_32, i_33, i_34, i_35, i_36, i_37, i_38, i_39, i_40, i_41, i_42, i_43, i_44, i_45, i_46])))] [.ref a_0, .int 1, .int 0] (fun u : Unit => [(a_0, .inr (12, [.int i_0, .ref a_1, .ref a_2, .ref a_3, .ref a_4, .ref a_5, .int i_1, .int i_2, .int i_3, .int i_4, .int i_5, .long j_0, .int i_6, .int i_7, .int i_8, .int i_9, .ref a_6, .ref a_7, .ref a_8, .ref a_9, .ref a_10, .ref a_11, .ref a_12, .ref a_13, .ref a_14, .ref a_15, .ref a_16, .ref a_17, .ref a_18, .int i_10, .int i_11, .int i_12, .int i_13, .int i_14, .int i_15, .ref a_19, .int i_16, .ref a_20])), (a_7, .inl (cy 1, 30, .inl (mm_g [i_17, i_18, i_19, i_20, i_21, i_22, i_23, i_24, i_25, i_26, i_27, i_28, i_29, i_30, i_31, i_32, i_33, i_34, i_35, i_36, i_37, i_38, i_39, i_40, i_41, 0, i_43, i_44, i_45, i_46])))]) (fun u : Unit => True) 0 0 := by
  refine mm_begin (lv := [(0, .ref a_0), (1, .int 1), (2, .int 0)]) (by decide) (Nat.le_of_ble_eq_true rfl) rfl ?_
  intro p e s m below meth c A ls R args Q H locs hRe hQ hAe hx hb hr hlocks hml hown hnm hts hsz hA hS hP hK hD hZ hl
  have hRf : R.frames = 0 := by rw [hRe]
  have hRl : R.locals = 0 := by rw [hRe]
  have hRc : R.cells = 0 := by rw [hRe]
  have hRs : R.slots = 0 := by rw [hRe]
  refine lv_aload_n hx hb dX12_tells_0 rfl (lv_at hl 0 rfl) ?_
  refine va_get (D := G) (ci := 12) (v := .ref a_7) (C := RX12) (T := TX12) (N := 38) hx hb hts (mm_i inlX12) hown hK.1 hP 0 rfl rfl 17 (by decide) (mm_h hts mm_w149) (fun _ h9 => h9) rfl dX12_tells_1 ?_
  refine lv_bipush (v := 24) hx hb dX12_tells_4 (by decide) ?_
  refine lv_iload_n hx hb dX12_tells_6 rfl (lv_at hl 1 rfl) ?_
  refine lv_iadd hx hb dX12_tells_7 ?_
  refine lv_topi (fun v1 ev1 => ?_)
  obtain rfl : v1 = 25 := ev1.trans (by decide)
  refine lv_iload_n hx hb dX12_tells_8 rfl (lv_at hl 2 rfl) ?_
  refine va_iast hx hb hK.1 hP hD hS 1 1 rfl rfl (mm_in mm_k25 (by decide)) dX12_tells_9 ?_
  clear hP hD hS
  clear H locs
  rw [show upd (mm_g [i_17, i_18, i_19, i_20, i_21, i_22, i_23, i_24, i_25, i_26, i_27, i_28, i_29, i_30, i_31, i_32, i_33, i_34, i_35, i_36, i_37, i_38, i_39, i_40, i_41, i_42, i_43, i_44, i_45, i_46]) (25 : Int32).toNatClampNeg 0 = (mm_g [i_17, i_18, i_19, i_20, i_21, i_22, i_23, i_24, i_25, i_26, i_27, i_28, i_29, i_30, i_31, i_32, i_33, i_34, i_35, i_36, i_37, i_38, i_39, i_40, i_41, 0, i_43, i_44, i_45, i_46]) from mm_gs2 25 30 (by decide) rfl rfl rfl]
  intro H locs (hP : va_P G vwCl [(a_0, .inr (12, [.int i_0, .ref a_1, .ref a_2, .ref a_3, .ref a_4, .ref a_5, .int i_1, .int i_2, .int i_3, .int i_4, .int i_5, .long j_0, .int i_6, .int i_7, .int i_8, .int i_9, .ref a_6, .ref a_7, .ref a_8, .ref a_9, .ref a_10, .ref a_11, .ref a_12, .ref a_13, .ref a_14, .ref a_15, .ref a_16, .ref a_17, .ref a_18, .int i_10, .int i_11, .int i_12, .int i_13, .int i_14, .int i_15, .ref a_19, .int i_16, .ref a_20])), (a_7, .inl (cy 1, 30, .inl (mm_g [i_17, i_18, i_19, i_20, i_21, i_22, i_23, i_24, i_25, i_26, i_27, i_28, i_29, i_30, i_31, i_32, i_33, i_34, i_35, i_36, i_37, i_38, i_39, i_40, i_41, 0, i_43, i_44, i_45, i_46])))] H) (hD : va_D A [(a_0, .inr (12, [.int i_0, .ref a_1, .ref a_2, .ref a_3, .ref a_4, .ref a_5, .int i_1, .int i_2, .int i_3, .int i_4, .int i_5, .long j_0, .int i_6, .int i_7, .int i_8, .int i_9, .ref a_6, .ref a_7, .ref a_8, .ref a_9, .ref a_10, .ref a_11, .ref a_12, .ref a_13, .ref a_14, .ref a_15, .ref a_16, .ref a_17, .ref a_18, .int i_10, .int i_11, .int i_12, .int i_13, .int i_14, .int i_15, .ref a_19, .int i_16, .ref a_20])), (a_7, .inl (cy 1, 30, .inl (mm_g [i_17, i_18, i_19, i_20, i_21, i_22, i_23, i_24, i_25, i_26, i_27, i_28, i_29, i_30, i_31, i_32, i_33, i_34, i_35, i_36, i_37, i_38, i_39, i_40, i_41, 0, i_43, i_44, i_45, i_46])))]) hS
  subst hAe
  rw [hQ]
  exact W.vret hx hb hr (fun t ht hW => ⟨⟨(), rfl, trivial, by rw [ht]; exact hP, hK.warm hW, hD⟩, hS.F ht⟩) hS.2.2 dX12_tells_10

set_option maxHeartbeats 4000000 in
set_option maxRecDepth 100000 in
theorem M11_X12_tells (l : Launch) (G : va_G) (cy : Nat → ClassId) (sz : Nat) (a_0 : Nat) (i_0 : Int32) (a_1 : Nat) (a_2 : Nat) (a_3 : Nat) (a_4 : Nat) (a_5 : Nat) (i_1 : Int32) (i_2 : Int32) (i_3 : Int32) (i_4 : Int32) (i_5 : Int32) (j_0 : Int64) (i_6 : Int32) (i_7 : Int32) (i_8 : Int32) (i_9 : Int32) (a_6 : Nat) (a_7 : Nat) (a_8 : Nat) (a_9 : Nat) (a_10 : Nat) (a_11 : Nat) (a_12 : Nat) (a_13 : Nat) (a_14 : Nat) (a_15 : Nat) (a_16 : Nat) (a_17 : Nat) (a_18 : Nat) (i_10 : Int32) (i_11 : Int32) (i_12 : Int32) (i_13 : Int32) (i_14 : Int32) (i_15 : Int32) (a_19 : Nat) (i_16 : Int32) (a_20 : Nat) (i_17 : Int32) (i_18 : Int32) (i_19 : Int32) (i_20 : Int32) (i_21 : Int32) (i_22 : Int32) (i_23 : Int32) (i_24 : Int32) (i_25 : Int32) (i_26 : Int32) (i_27 : Int32) (i_28 : Int32) (i_29 : Int32) (i_30 : Int32) (i_31 : Int32) (i_32 : Int32) (i_33 : Int32) (i_34 : Int32) (i_35 : Int32) (i_36 : Int32) (i_37 : Int32) (i_38 : Int32) (i_39 : Int32) (i_40 : Int32) (i_41 : Int32) (i_42 : Int32) (i_43 : Int32) (i_44 : Int32) (i_45 : Int32) (i_46 : Int32) (h0 : mm_rg i_17 0 10) (h1 : mm_rg i_18 0 99) (h2 : mm_rg i_19 0 9) (h3 : mm_rg i_20 0 3) (h4 : mm_rg i_21 0 6) (h5 : mm_rg i_22 0 30) (h6 : mm_rg i_23 0 10) (h7 : mm_rg i_24 0 99) (h8 : mm_rg i_25 0 9) (h9 : mm_rg i_26 0 3) (h10 : mm_rg i_27 0 6) (h11 : mm_rg i_28 0 30) (h12 : mm_rg i_29 0 10) (h13 : mm_rg i_30 0 99) (h14 : mm_rg i_31 0 9) (h15 : mm_rg i_32 0 3) (h16 : mm_rg i_33 0 6) (h17 : mm_rg i_34 0 30) (h18 : mm_rg i_35 0 10) (h19 : mm_rg i_36 0 99) (h20 : mm_rg i_37 0 9) (h21 : mm_rg i_38 0 3) (h22 : mm_rg i_39 0 6) (h23 : mm_rg i_40 0 30) (h24 : mm_rg i_41 0 10) (h25 : mm_rg i_42 0 99) (h26 : mm_rg i_43 0 9) (h27 : mm_rg i_44 0 3) (h28 : mm_rg i_45 0 6) (h29 : mm_rg i_46 0 30)  : mm_CV l yX12_tells (mm_ws yX12_tells cX12_tells 3 (none)) ({ frames := 0, cells := 0, slots := 0, locals := 0 } : Room) G cy sz [(a_0, .inr (12, [.int i_0, .ref a_1, .ref a_2, .ref a_3, .ref a_4, .ref a_5, .int i_1, .int i_2, .int i_3, .int i_4, .int i_5, .long j_0, .int i_6, .int i_7, .int i_8, .int i_9, .ref a_6, .ref a_7, .ref a_8, .ref a_9, .ref a_10, .ref a_11, .ref a_12, .ref a_13, .ref a_14, .ref a_15, .ref a_16, .ref a_17, .ref a_18, .int i_10, .int i_11, .int i_12, .int i_13, .int i_14, .int i_15, .ref a_19, .int i_16, .ref a_20])), (a_7, .inl (cy 1, 30, .inl (mm_g [i_17, i_18, i_19, i_20, i_21, i_22, i_23, i_24, i_25, i_26, i_27, i_28, i_29, i_30, i_31, i_32, i_33, i_34, i_35, i_36, i_37, i_38, i_39, i_40, i_41, i_42, i_43, i_44, i_45, i_46])))] [.ref a_0, .int 2, .int 0] (fun u : Unit => [(a_0, .inr (12, [.int i_0, .ref a_1, .ref a_2, .ref a_3, .ref a_4, .ref a_5, .int i_1, .int i_2, .int i_3, .int i_4, .int i_5, .long j_0, .int i_6, .int i_7, .int i_8, .int i_9, .ref a_6, .ref a_7, .ref a_8, .ref a_9, .ref a_10, .ref a_11, .ref a_12, .ref a_13, .ref a_14, .ref a_15, .ref a_16, .ref a_17, .ref a_18, .int i_10, .int i_11, .int i_12, .int i_13, .int i_14, .int i_15, .ref a_19, .int i_16, .ref a_20])), (a_7, .inl (cy 1, 30, .inl (mm_g [i_17, i_18, i_19, i_20, i_21, i_22, i_23, i_24, i_25, i_26, i_27, i_28, i_29, i_30, i_31, i_32, i_33, i_34, i_35, i_36, i_37, i_38, i_39, i_40, i_41, i_42, 0, i_44, i_45, i_46])))]) (fun u : Unit => True) 0 0 := by
  refine mm_begin (lv := [(0, .ref a_0), (1, .int 2), (2, .int 0)]) (by decide) (Nat.le_of_ble_eq_true rfl) rfl ?_
  intro p e s m below meth c A ls R args Q H locs hRe hQ hAe hx hb hr hlocks hml hown hnm hts hsz hA hS hP hK hD hZ hl
  have hRf : R.frames = 0 := by rw [hRe]
  have hRl : R.locals = 0 := by rw [hRe]
  have hRc : R.cells = 0 := by rw [hRe]
  have hRs : R.slots = 0 := by rw [hRe]
  refine lv_aload_n hx hb dX12_tells_0 rfl (lv_at hl 0 rfl) ?_
  refine va_get (D := G) (ci := 12) (v := .ref a_7) (C := RX12) (T := TX12) (N := 38) hx hb hts (mm_i inlX12) hown hK.1 hP 0 rfl rfl 17 (by decide) (mm_h hts mm_w149) (fun _ h9 => h9) rfl dX12_tells_1 ?_
  refine lv_bipush (v := 24) hx hb dX12_tells_4 (by decide) ?_
  refine lv_iload_n hx hb dX12_tells_6 rfl (lv_at hl 1 rfl) ?_
  refine lv_iadd hx hb dX12_tells_7 ?_
  refine lv_topi (fun v1 ev1 => ?_)
  obtain rfl : v1 = 26 := ev1.trans (by decide)
  refine lv_iload_n hx hb dX12_tells_8 rfl (lv_at hl 2 rfl) ?_
  refine va_iast hx hb hK.1 hP hD hS 1 1 rfl rfl (mm_in mm_k26 (by decide)) dX12_tells_9 ?_
  clear hP hD hS
  clear H locs
  rw [show upd (mm_g [i_17, i_18, i_19, i_20, i_21, i_22, i_23, i_24, i_25, i_26, i_27, i_28, i_29, i_30, i_31, i_32, i_33, i_34, i_35, i_36, i_37, i_38, i_39, i_40, i_41, i_42, i_43, i_44, i_45, i_46]) (26 : Int32).toNatClampNeg 0 = (mm_g [i_17, i_18, i_19, i_20, i_21, i_22, i_23, i_24, i_25, i_26, i_27, i_28, i_29, i_30, i_31, i_32, i_33, i_34, i_35, i_36, i_37, i_38, i_39, i_40, i_41, i_42, 0, i_44, i_45, i_46]) from mm_gs2 26 30 (by decide) rfl rfl rfl]
  intro H locs (hP : va_P G vwCl [(a_0, .inr (12, [.int i_0, .ref a_1, .ref a_2, .ref a_3, .ref a_4, .ref a_5, .int i_1, .int i_2, .int i_3, .int i_4, .int i_5, .long j_0, .int i_6, .int i_7, .int i_8, .int i_9, .ref a_6, .ref a_7, .ref a_8, .ref a_9, .ref a_10, .ref a_11, .ref a_12, .ref a_13, .ref a_14, .ref a_15, .ref a_16, .ref a_17, .ref a_18, .int i_10, .int i_11, .int i_12, .int i_13, .int i_14, .int i_15, .ref a_19, .int i_16, .ref a_20])), (a_7, .inl (cy 1, 30, .inl (mm_g [i_17, i_18, i_19, i_20, i_21, i_22, i_23, i_24, i_25, i_26, i_27, i_28, i_29, i_30, i_31, i_32, i_33, i_34, i_35, i_36, i_37, i_38, i_39, i_40, i_41, i_42, 0, i_44, i_45, i_46])))] H) (hD : va_D A [(a_0, .inr (12, [.int i_0, .ref a_1, .ref a_2, .ref a_3, .ref a_4, .ref a_5, .int i_1, .int i_2, .int i_3, .int i_4, .int i_5, .long j_0, .int i_6, .int i_7, .int i_8, .int i_9, .ref a_6, .ref a_7, .ref a_8, .ref a_9, .ref a_10, .ref a_11, .ref a_12, .ref a_13, .ref a_14, .ref a_15, .ref a_16, .ref a_17, .ref a_18, .int i_10, .int i_11, .int i_12, .int i_13, .int i_14, .int i_15, .ref a_19, .int i_16, .ref a_20])), (a_7, .inl (cy 1, 30, .inl (mm_g [i_17, i_18, i_19, i_20, i_21, i_22, i_23, i_24, i_25, i_26, i_27, i_28, i_29, i_30, i_31, i_32, i_33, i_34, i_35, i_36, i_37, i_38, i_39, i_40, i_41, i_42, 0, i_44, i_45, i_46])))]) hS
  subst hAe
  rw [hQ]
  exact W.vret hx hb hr (fun t ht hW => ⟨⟨(), rfl, trivial, by rw [ht]; exact hP, hK.warm hW, hD⟩, hS.F ht⟩) hS.2.2 dX12_tells_10

set_option maxHeartbeats 4000000 in
set_option maxRecDepth 100000 in
theorem M12_X12_tells (l : Launch) (G : va_G) (cy : Nat → ClassId) (sz : Nat) (a_0 : Nat) (i_0 : Int32) (a_1 : Nat) (a_2 : Nat) (a_3 : Nat) (a_4 : Nat) (a_5 : Nat) (i_1 : Int32) (i_2 : Int32) (i_3 : Int32) (i_4 : Int32) (i_5 : Int32) (j_0 : Int64) (i_6 : Int32) (i_7 : Int32) (i_8 : Int32) (i_9 : Int32) (a_6 : Nat) (a_7 : Nat) (a_8 : Nat) (a_9 : Nat) (a_10 : Nat) (a_11 : Nat) (a_12 : Nat) (a_13 : Nat) (a_14 : Nat) (a_15 : Nat) (a_16 : Nat) (a_17 : Nat) (a_18 : Nat) (i_10 : Int32) (i_11 : Int32) (i_12 : Int32) (i_13 : Int32) (i_14 : Int32) (i_15 : Int32) (a_19 : Nat) (i_16 : Int32) (a_20 : Nat) (i_17 : Int32) (i_18 : Int32) (i_19 : Int32) (i_20 : Int32) (i_21 : Int32) (i_22 : Int32) (i_23 : Int32) (i_24 : Int32) (i_25 : Int32) (i_26 : Int32) (i_27 : Int32) (i_28 : Int32) (i_29 : Int32) (i_30 : Int32) (i_31 : Int32) (i_32 : Int32) (i_33 : Int32) (i_34 : Int32) (i_35 : Int32) (i_36 : Int32) (i_37 : Int32) (i_38 : Int32) (i_39 : Int32) (i_40 : Int32) (i_41 : Int32) (i_42 : Int32) (i_43 : Int32) (i_44 : Int32) (i_45 : Int32) (i_46 : Int32) (h0 : mm_rg i_17 0 10) (h1 : mm_rg i_18 0 99) (h2 : mm_rg i_19 0 9) (h3 : mm_rg i_20 0 3) (h4 : mm_rg i_21 0 6) (h5 : mm_rg i_22 0 30) (h6 : mm_rg i_23 0 10) (h7 : mm_rg i_24 0 99) (h8 : mm_rg i_25 0 9) (h9 : mm_rg i_26 0 3) (h10 : mm_rg i_27 0 6) (h11 : mm_rg i_28 0 30) (h12 : mm_rg i_29 0 10) (h13 : mm_rg i_30 0 99) (h14 : mm_rg i_31 0 9) (h15 : mm_rg i_32 0 3) (h16 : mm_rg i_33 0 6) (h17 : mm_rg i_34 0 30) (h18 : mm_rg i_35 0 10) (h19 : mm_rg i_36 0 99) (h20 : mm_rg i_37 0 9) (h21 : mm_rg i_38 0 3) (h22 : mm_rg i_39 0 6) (h23 : mm_rg i_40 0 30) (h24 : mm_rg i_41 0 10) (h25 : mm_rg i_42 0 99) (h26 : mm_rg i_43 0 9) (h27 : mm_rg i_44 0 3) (h28 : mm_rg i_45 0 6) (h29 : mm_rg i_46 0 30)  : mm_CV l yX12_tells (mm_ws yX12_tells cX12_tells 3 (none)) ({ frames := 0, cells := 0, slots := 0, locals := 0 } : Room) G cy sz [(a_0, .inr (12, [.int i_0, .ref a_1, .ref a_2, .ref a_3, .ref a_4, .ref a_5, .int i_1, .int i_2, .int i_3, .int i_4, .int i_5, .long j_0, .int i_6, .int i_7, .int i_8, .int i_9, .ref a_6, .ref a_7, .ref a_8, .ref a_9, .ref a_10, .ref a_11, .ref a_12, .ref a_13, .ref a_14, .ref a_15, .ref a_16, .ref a_17, .ref a_18, .int i_10, .int i_11, .int i_12, .int i_13, .int i_14, .int i_15, .ref a_19, .int i_16, .ref a_20])), (a_7, .inl (cy 1, 30, .inl (mm_g [i_17, i_18, i_19, i_20, i_21, i_22, i_23, i_24, i_25, i_26, i_27, i_28, i_29, i_30, i_31, i_32, i_33, i_34, i_35, i_36, i_37, i_38, i_39, i_40, i_41, i_42, i_43, i_44, i_45, i_46])))] [.ref a_0, .int 3, .int 0] (fun u : Unit => [(a_0, .inr (12, [.int i_0, .ref a_1, .ref a_2, .ref a_3, .ref a_4, .ref a_5, .int i_1, .int i_2, .int i_3, .int i_4, .int i_5, .long j_0, .int i_6, .int i_7, .int i_8, .int i_9, .ref a_6, .ref a_7, .ref a_8, .ref a_9, .ref a_10, .ref a_11, .ref a_12, .ref a_13, .ref a_14, .ref a_15, .ref a_16, .ref a_17, .ref a_18, .int i_10, .int i_11, .int i_12, .int i_13, .int i_14, .int i_15, .ref a_19, .int i_16, .ref a_20])), (a_7, .inl (cy 1, 30, .inl (mm_g [i_17, i_18, i_19, i_20, i_21, i_22, i_23, i_24, i_25, i_26, i_27, i_28, i_29, i_30, i_31, i_32, i_33, i_34, i_35, i_36, i_37, i_38, i_39, i_40, i_41, i_42, i_43, 0, i_45, i_46])))]) (fun u : Unit => True) 0 0 := by
  refine mm_begin (lv := [(0, .ref a_0), (1, .int 3), (2, .int 0)]) (by decide) (Nat.le_of_ble_eq_true rfl) rfl ?_
  intro p e s m below meth c A ls R args Q H locs hRe hQ hAe hx hb hr hlocks hml hown hnm hts hsz hA hS hP hK hD hZ hl
  have hRf : R.frames = 0 := by rw [hRe]
  have hRl : R.locals = 0 := by rw [hRe]
  have hRc : R.cells = 0 := by rw [hRe]
  have hRs : R.slots = 0 := by rw [hRe]
  refine lv_aload_n hx hb dX12_tells_0 rfl (lv_at hl 0 rfl) ?_
  refine va_get (D := G) (ci := 12) (v := .ref a_7) (C := RX12) (T := TX12) (N := 38) hx hb hts (mm_i inlX12) hown hK.1 hP 0 rfl rfl 17 (by decide) (mm_h hts mm_w149) (fun _ h9 => h9) rfl dX12_tells_1 ?_
  refine lv_bipush (v := 24) hx hb dX12_tells_4 (by decide) ?_
  refine lv_iload_n hx hb dX12_tells_6 rfl (lv_at hl 1 rfl) ?_
  refine lv_iadd hx hb dX12_tells_7 ?_
  refine lv_topi (fun v1 ev1 => ?_)
  obtain rfl : v1 = 27 := ev1.trans (by decide)
  refine lv_iload_n hx hb dX12_tells_8 rfl (lv_at hl 2 rfl) ?_
  refine va_iast hx hb hK.1 hP hD hS 1 1 rfl rfl (mm_in mm_k27 (by decide)) dX12_tells_9 ?_
  clear hP hD hS
  clear H locs
  rw [show upd (mm_g [i_17, i_18, i_19, i_20, i_21, i_22, i_23, i_24, i_25, i_26, i_27, i_28, i_29, i_30, i_31, i_32, i_33, i_34, i_35, i_36, i_37, i_38, i_39, i_40, i_41, i_42, i_43, i_44, i_45, i_46]) (27 : Int32).toNatClampNeg 0 = (mm_g [i_17, i_18, i_19, i_20, i_21, i_22, i_23, i_24, i_25, i_26, i_27, i_28, i_29, i_30, i_31, i_32, i_33, i_34, i_35, i_36, i_37, i_38, i_39, i_40, i_41, i_42, i_43, 0, i_45, i_46]) from mm_gs2 27 30 (by decide) rfl rfl rfl]
  intro H locs (hP : va_P G vwCl [(a_0, .inr (12, [.int i_0, .ref a_1, .ref a_2, .ref a_3, .ref a_4, .ref a_5, .int i_1, .int i_2, .int i_3, .int i_4, .int i_5, .long j_0, .int i_6, .int i_7, .int i_8, .int i_9, .ref a_6, .ref a_7, .ref a_8, .ref a_9, .ref a_10, .ref a_11, .ref a_12, .ref a_13, .ref a_14, .ref a_15, .ref a_16, .ref a_17, .ref a_18, .int i_10, .int i_11, .int i_12, .int i_13, .int i_14, .int i_15, .ref a_19, .int i_16, .ref a_20])), (a_7, .inl (cy 1, 30, .inl (mm_g [i_17, i_18, i_19, i_20, i_21, i_22, i_23, i_24, i_25, i_26, i_27, i_28, i_29, i_30, i_31, i_32, i_33, i_34, i_35, i_36, i_37, i_38, i_39, i_40, i_41, i_42, i_43, 0, i_45, i_46])))] H) (hD : va_D A [(a_0, .inr (12, [.int i_0, .ref a_1, .ref a_2, .ref a_3, .ref a_4, .ref a_5, .int i_1, .int i_2, .int i_3, .int i_4, .int i_5, .long j_0, .int i_6, .int i_7, .int i_8, .int i_9, .ref a_6, .ref a_7, .ref a_8, .ref a_9, .ref a_10, .ref a_11, .ref a_12, .ref a_13, .ref a_14, .ref a_15, .ref a_16, .ref a_17, .ref a_18, .int i_10, .int i_11, .int i_12, .int i_13, .int i_14, .int i_15, .ref a_19, .int i_16, .ref a_20])), (a_7, .inl (cy 1, 30, .inl (mm_g [i_17, i_18, i_19, i_20, i_21, i_22, i_23, i_24, i_25, i_26, i_27, i_28, i_29, i_30, i_31, i_32, i_33, i_34, i_35, i_36, i_37, i_38, i_39, i_40, i_41, i_42, i_43, 0, i_45, i_46])))]) hS
  subst hAe
  rw [hQ]
  exact W.vret hx hb hr (fun t ht hW => ⟨⟨(), rfl, trivial, by rw [ht]; exact hP, hK.warm hW, hD⟩, hS.F ht⟩) hS.2.2 dX12_tells_10

set_option maxHeartbeats 4000000 in
set_option maxRecDepth 100000 in
theorem M13_X12_tells (l : Launch) (G : va_G) (cy : Nat → ClassId) (sz : Nat) (a_0 : Nat) (i_0 : Int32) (a_1 : Nat) (a_2 : Nat) (a_3 : Nat) (a_4 : Nat) (a_5 : Nat) (i_1 : Int32) (i_2 : Int32) (i_3 : Int32) (i_4 : Int32) (i_5 : Int32) (j_0 : Int64) (i_6 : Int32) (i_7 : Int32) (i_8 : Int32) (i_9 : Int32) (a_6 : Nat) (a_7 : Nat) (a_8 : Nat) (a_9 : Nat) (a_10 : Nat) (a_11 : Nat) (a_12 : Nat) (a_13 : Nat) (a_14 : Nat) (a_15 : Nat) (a_16 : Nat) (a_17 : Nat) (a_18 : Nat) (i_10 : Int32) (i_11 : Int32) (i_12 : Int32) (i_13 : Int32) (i_14 : Int32) (i_15 : Int32) (a_19 : Nat) (i_16 : Int32) (a_20 : Nat) (i_17 : Int32) (i_18 : Int32) (i_19 : Int32) (i_20 : Int32) (i_21 : Int32) (i_22 : Int32) (i_23 : Int32) (i_24 : Int32) (i_25 : Int32) (i_26 : Int32) (i_27 : Int32) (i_28 : Int32) (i_29 : Int32) (i_30 : Int32) (i_31 : Int32) (i_32 : Int32) (i_33 : Int32) (i_34 : Int32) (i_35 : Int32) (i_36 : Int32) (i_37 : Int32) (i_38 : Int32) (i_39 : Int32) (i_40 : Int32) (i_41 : Int32) (i_42 : Int32) (i_43 : Int32) (i_44 : Int32) (i_45 : Int32) (i_46 : Int32) (h0 : mm_rg i_17 0 10) (h1 : mm_rg i_18 0 99) (h2 : mm_rg i_19 0 9) (h3 : mm_rg i_20 0 3) (h4 : mm_rg i_21 0 6) (h5 : mm_rg i_22 0 30) (h6 : mm_rg i_23 0 10) (h7 : mm_rg i_24 0 99) (h8 : mm_rg i_25 0 9) (h9 : mm_rg i_26 0 3) (h10 : mm_rg i_27 0 6) (h11 : mm_rg i_28 0 30) (h12 : mm_rg i_29 0 10) (h13 : mm_rg i_30 0 99) (h14 : mm_rg i_31 0 9) (h15 : mm_rg i_32 0 3) (h16 : mm_rg i_33 0 6) (h17 : mm_rg i_34 0 30) (h18 : mm_rg i_35 0 10) (h19 : mm_rg i_36 0 99) (h20 : mm_rg i_37 0 9) (h21 : mm_rg i_38 0 3) (h22 : mm_rg i_39 0 6) (h23 : mm_rg i_40 0 30) (h24 : mm_rg i_41 0 10) (h25 : mm_rg i_42 0 99) (h26 : mm_rg i_43 0 9) (h27 : mm_rg i_44 0 3) (h28 : mm_rg i_45 0 6) (h29 : mm_rg i_46 0 30)  : mm_CV l yX12_tells (mm_ws yX12_tells cX12_tells 3 (none)) ({ frames := 0, cells := 0, slots := 0, locals := 0 } : Room) G cy sz [(a_0, .inr (12, [.int i_0, .ref a_1, .ref a_2, .ref a_3, .ref a_4, .ref a_5, .int i_1, .int i_2, .int i_3, .int i_4, .int i_5, .long j_0, .int i_6, .int i_7, .int i_8, .int i_9, .ref a_6, .ref a_7, .ref a_8, .ref a_9, .ref a_10, .ref a_11, .ref a_12, .ref a_13, .ref a_14, .ref a_15, .ref a_16, .ref a_17, .ref a_18, .int i_10, .int i_11, .int i_12, .int i_13, .int i_14, .int i_15, .ref a_19, .int i_16, .ref a_20])), (a_7, .inl (cy 1, 30, .inl (mm_g [i_17, i_18, i_19, i_20, i_21, i_22, i_23, i_24, i_25, i_26, i_27, i_28, i_29, i_30, i_31, i_32, i_33, i_34, i_35, i_36, i_37, i_38, i_39, i_40, i_41, i_42, i_43, i_44, i_45, i_46])))] [.ref a_0, .int 4, .int 0] (fun u : Unit => [(a_0, .inr (12, [.int i_0, .ref a_1, .ref a_2, .ref a_3, .ref a_4, .ref a_5, .int i_1, .int i_2, .int i_3, .int i_4, .int i_5, .long j_0, .int i_6, .int i_7, .int i_8, .int i_9, .ref a_6, .ref a_7, .ref a_8, .ref a_9, .ref a_10, .ref a_11, .ref a_12, .ref a_13, .ref a_14, .ref a_15, .ref a_16, .ref a_17, .ref a_18, .int i_10, .int i_11, .int i_12, .int i_13, .int i_14, .int i_15, .ref a_19, .int i_16, .ref a_20])), (a_7, .inl (cy 1, 30, .inl (mm_g [i_17, i_18, i_19, i_20, i_21, i_22, i_23, i_24, i_25, i_26, i_27, i_28, i_29, i_30, i_31, i_32, i_33, i_34, i_35, i_36, i_37, i_38, i_39, i_40, i_41, i_42, i_43, i_44, 0, i_46])))]) (fun u : Unit => True) 0 0 := by
  refine mm_begin (lv := [(0, .ref a_0), (1, .int 4), (2, .int 0)]) (by decide) (Nat.le_of_ble_eq_true rfl) rfl ?_
  intro p e s m below meth c A ls R args Q H locs hRe hQ hAe hx hb hr hlocks hml hown hnm hts hsz hA hS hP hK hD hZ hl
  have hRf : R.frames = 0 := by rw [hRe]
  have hRl : R.locals = 0 := by rw [hRe]
  have hRc : R.cells = 0 := by rw [hRe]
  have hRs : R.slots = 0 := by rw [hRe]
  refine lv_aload_n hx hb dX12_tells_0 rfl (lv_at hl 0 rfl) ?_
  refine va_get (D := G) (ci := 12) (v := .ref a_7) (C := RX12) (T := TX12) (N := 38) hx hb hts (mm_i inlX12) hown hK.1 hP 0 rfl rfl 17 (by decide) (mm_h hts mm_w149) (fun _ h9 => h9) rfl dX12_tells_1 ?_
  refine lv_bipush (v := 24) hx hb dX12_tells_4 (by decide) ?_
  refine lv_iload_n hx hb dX12_tells_6 rfl (lv_at hl 1 rfl) ?_
  refine lv_iadd hx hb dX12_tells_7 ?_
  refine lv_topi (fun v1 ev1 => ?_)
  obtain rfl : v1 = 28 := ev1.trans (by decide)
  refine lv_iload_n hx hb dX12_tells_8 rfl (lv_at hl 2 rfl) ?_
  refine va_iast hx hb hK.1 hP hD hS 1 1 rfl rfl (mm_in mm_k28 (by decide)) dX12_tells_9 ?_
  clear hP hD hS
  clear H locs
  rw [show upd (mm_g [i_17, i_18, i_19, i_20, i_21, i_22, i_23, i_24, i_25, i_26, i_27, i_28, i_29, i_30, i_31, i_32, i_33, i_34, i_35, i_36, i_37, i_38, i_39, i_40, i_41, i_42, i_43, i_44, i_45, i_46]) (28 : Int32).toNatClampNeg 0 = (mm_g [i_17, i_18, i_19, i_20, i_21, i_22, i_23, i_24, i_25, i_26, i_27, i_28, i_29, i_30, i_31, i_32, i_33, i_34, i_35, i_36, i_37, i_38, i_39, i_40, i_41, i_42, i_43, i_44, 0, i_46]) from mm_gs2 28 30 (by decide) rfl rfl rfl]
  intro H locs (hP : va_P G vwCl [(a_0, .inr (12, [.int i_0, .ref a_1, .ref a_2, .ref a_3, .ref a_4, .ref a_5, .int i_1, .int i_2, .int i_3, .int i_4, .int i_5, .long j_0, .int i_6, .int i_7, .int i_8, .int i_9, .ref a_6, .ref a_7, .ref a_8, .ref a_9, .ref a_10, .ref a_11, .ref a_12, .ref a_13, .ref a_14, .ref a_15, .ref a_16, .ref a_17, .ref a_18, .int i_10, .int i_11, .int i_12, .int i_13, .int i_14, .int i_15, .ref a_19, .int i_16, .ref a_20])), (a_7, .inl (cy 1, 30, .inl (mm_g [i_17, i_18, i_19, i_20, i_21, i_22, i_23, i_24, i_25, i_26, i_27, i_28, i_29, i_30, i_31, i_32, i_33, i_34, i_35, i_36, i_37, i_38, i_39, i_40, i_41, i_42, i_43, i_44, 0, i_46])))] H) (hD : va_D A [(a_0, .inr (12, [.int i_0, .ref a_1, .ref a_2, .ref a_3, .ref a_4, .ref a_5, .int i_1, .int i_2, .int i_3, .int i_4, .int i_5, .long j_0, .int i_6, .int i_7, .int i_8, .int i_9, .ref a_6, .ref a_7, .ref a_8, .ref a_9, .ref a_10, .ref a_11, .ref a_12, .ref a_13, .ref a_14, .ref a_15, .ref a_16, .ref a_17, .ref a_18, .int i_10, .int i_11, .int i_12, .int i_13, .int i_14, .int i_15, .ref a_19, .int i_16, .ref a_20])), (a_7, .inl (cy 1, 30, .inl (mm_g [i_17, i_18, i_19, i_20, i_21, i_22, i_23, i_24, i_25, i_26, i_27, i_28, i_29, i_30, i_31, i_32, i_33, i_34, i_35, i_36, i_37, i_38, i_39, i_40, i_41, i_42, i_43, i_44, 0, i_46])))]) hS
  subst hAe
  rw [hQ]
  exact W.vret hx hb hr (fun t ht hW => ⟨⟨(), rfl, trivial, by rw [ht]; exact hP, hK.warm hW, hD⟩, hS.F ht⟩) hS.2.2 dX12_tells_10

set_option maxHeartbeats 4000000 in
set_option maxRecDepth 100000 in
theorem M14_X12_tells (l : Launch) (G : va_G) (cy : Nat → ClassId) (sz : Nat) (a_0 : Nat) (i_0 : Int32) (a_1 : Nat) (a_2 : Nat) (a_3 : Nat) (a_4 : Nat) (a_5 : Nat) (i_1 : Int32) (i_2 : Int32) (i_3 : Int32) (i_4 : Int32) (i_5 : Int32) (j_0 : Int64) (i_6 : Int32) (i_7 : Int32) (i_8 : Int32) (i_9 : Int32) (a_6 : Nat) (a_7 : Nat) (a_8 : Nat) (a_9 : Nat) (a_10 : Nat) (a_11 : Nat) (a_12 : Nat) (a_13 : Nat) (a_14 : Nat) (a_15 : Nat) (a_16 : Nat) (a_17 : Nat) (a_18 : Nat) (i_10 : Int32) (i_11 : Int32) (i_12 : Int32) (i_13 : Int32) (i_14 : Int32) (i_15 : Int32) (a_19 : Nat) (i_16 : Int32) (a_20 : Nat) (i_17 : Int32) (i_18 : Int32) (i_19 : Int32) (i_20 : Int32) (i_21 : Int32) (i_22 : Int32) (i_23 : Int32) (i_24 : Int32) (i_25 : Int32) (i_26 : Int32) (i_27 : Int32) (i_28 : Int32) (i_29 : Int32) (i_30 : Int32) (i_31 : Int32) (i_32 : Int32) (i_33 : Int32) (i_34 : Int32) (i_35 : Int32) (i_36 : Int32) (i_37 : Int32) (i_38 : Int32) (i_39 : Int32) (i_40 : Int32) (i_41 : Int32) (i_42 : Int32) (i_43 : Int32) (i_44 : Int32) (i_45 : Int32) (i_46 : Int32) (h0 : mm_rg i_17 0 10) (h1 : mm_rg i_18 0 99) (h2 : mm_rg i_19 0 9) (h3 : mm_rg i_20 0 3) (h4 : mm_rg i_21 0 6) (h5 : mm_rg i_22 0 30) (h6 : mm_rg i_23 0 10) (h7 : mm_rg i_24 0 99) (h8 : mm_rg i_25 0 9) (h9 : mm_rg i_26 0 3) (h10 : mm_rg i_27 0 6) (h11 : mm_rg i_28 0 30) (h12 : mm_rg i_29 0 10) (h13 : mm_rg i_30 0 99) (h14 : mm_rg i_31 0 9) (h15 : mm_rg i_32 0 3) (h16 : mm_rg i_33 0 6) (h17 : mm_rg i_34 0 30) (h18 : mm_rg i_35 0 10) (h19 : mm_rg i_36 0 99) (h20 : mm_rg i_37 0 9) (h21 : mm_rg i_38 0 3) (h22 : mm_rg i_39 0 6) (h23 : mm_rg i_40 0 30) (h24 : mm_rg i_41 0 10) (h25 : mm_rg i_42 0 99) (h26 : mm_rg i_43 0 9) (h27 : mm_rg i_44 0 3) (h28 : mm_rg i_45 0 6) (h29 : mm_rg i_46 0 30)  : mm_CV l yX12_tells (mm_ws yX12_tells cX12_tells 3 (none)) ({ frames := 0, cells := 0, slots := 0, locals := 0 } : Room) G cy sz [(a_0, .inr (12, [.int i_0, .ref a_1, .ref a_2, .ref a_3, .ref a_4, .ref a_5, .int i_1, .int i_2, .int i_3, .int i_4, .int i_5, .long j_0, .int i_6, .int i_7, .int i_8, .int i_9, .ref a_6, .ref a_7, .ref a_8, .ref a_9, .ref a_10, .ref a_11, .ref a_12, .ref a_13, .ref a_14, .ref a_15, .ref a_16, .ref a_17, .ref a_18, .int i_10, .int i_11, .int i_12, .int i_13, .int i_14, .int i_15, .ref a_19, .int i_16, .ref a_20])), (a_7, .inl (cy 1, 30, .inl (mm_g [i_17, i_18, i_19, i_20, i_21, i_22, i_23, i_24, i_25, i_26, i_27, i_28, i_29, i_30, i_31, i_32, i_33, i_34, i_35, i_36, i_37, i_38, i_39, i_40, i_41, i_42, i_43, i_44, i_45, i_46])))] [.ref a_0, .int 5, .int 0] (fun u : Unit => [(a_0, .inr (12, [.int i_0, .ref a_1, .ref a_2, .ref a_3, .ref a_4, .ref a_5, .int i_1, .int i_2, .int i_3, .int i_4, .int i_5, .long j_0, .int i_6, .int i_7, .int i_8, .int i_9, .ref a_6, .ref a_7, .ref a_8, .ref a_9, .ref a_10, .ref a_11, .ref a_12, .ref a_13, .ref a_14, .ref a_15, .ref a_16, .ref a_17, .ref a_18, .int i_10, .int i_11, .int i_12, .int i_13, .int i_14, .int i_15, .ref a_19, .int i_16, .ref a_20])), (a_7, .inl (cy 1, 30, .inl (mm_g [i_17, i_18, i_19, i_20, i_21, i_22, i_23, i_24, i_25, i_26, i_27, i_28, i_29, i_30, i_31, i_32, i_33, i_34, i_35, i_36, i_37, i_38, i_39, i_40, i_41, i_42, i_43, i_44, i_45, 0])))]) (fun u : Unit => True) 0 0 := by
  refine mm_begin (lv := [(0, .ref a_0), (1, .int 5), (2, .int 0)]) (by decide) (Nat.le_of_ble_eq_true rfl) rfl ?_
  intro p e s m below meth c A ls R args Q H locs hRe hQ hAe hx hb hr hlocks hml hown hnm hts hsz hA hS hP hK hD hZ hl
  have hRf : R.frames = 0 := by rw [hRe]
  have hRl : R.locals = 0 := by rw [hRe]
  have hRc : R.cells = 0 := by rw [hRe]
  have hRs : R.slots = 0 := by rw [hRe]
  refine lv_aload_n hx hb dX12_tells_0 rfl (lv_at hl 0 rfl) ?_
  refine va_get (D := G) (ci := 12) (v := .ref a_7) (C := RX12) (T := TX12) (N := 38) hx hb hts (mm_i inlX12) hown hK.1 hP 0 rfl rfl 17 (by decide) (mm_h hts mm_w149) (fun _ h9 => h9) rfl dX12_tells_1 ?_
  refine lv_bipush (v := 24) hx hb dX12_tells_4 (by decide) ?_
  refine lv_iload_n hx hb dX12_tells_6 rfl (lv_at hl 1 rfl) ?_
  refine lv_iadd hx hb dX12_tells_7 ?_
  refine lv_topi (fun v1 ev1 => ?_)
  obtain rfl : v1 = 29 := ev1.trans (by decide)
  refine lv_iload_n hx hb dX12_tells_8 rfl (lv_at hl 2 rfl) ?_
  refine va_iast hx hb hK.1 hP hD hS 1 1 rfl rfl (mm_in mm_k29 (by decide)) dX12_tells_9 ?_
  clear hP hD hS
  clear H locs
  rw [show upd (mm_g [i_17, i_18, i_19, i_20, i_21, i_22, i_23, i_24, i_25, i_26, i_27, i_28, i_29, i_30, i_31, i_32, i_33, i_34, i_35, i_36, i_37, i_38, i_39, i_40, i_41, i_42, i_43, i_44, i_45, i_46]) (29 : Int32).toNatClampNeg 0 = (mm_g [i_17, i_18, i_19, i_20, i_21, i_22, i_23, i_24, i_25, i_26, i_27, i_28, i_29, i_30, i_31, i_32, i_33, i_34, i_35, i_36, i_37, i_38, i_39, i_40, i_41, i_42, i_43, i_44, i_45, 0]) from mm_gs2 29 30 (by decide) rfl rfl rfl]
  intro H locs (hP : va_P G vwCl [(a_0, .inr (12, [.int i_0, .ref a_1, .ref a_2, .ref a_3, .ref a_4, .ref a_5, .int i_1, .int i_2, .int i_3, .int i_4, .int i_5, .long j_0, .int i_6, .int i_7, .int i_8, .int i_9, .ref a_6, .ref a_7, .ref a_8, .ref a_9, .ref a_10, .ref a_11, .ref a_12, .ref a_13, .ref a_14, .ref a_15, .ref a_16, .ref a_17, .ref a_18, .int i_10, .int i_11, .int i_12, .int i_13, .int i_14, .int i_15, .ref a_19, .int i_16, .ref a_20])), (a_7, .inl (cy 1, 30, .inl (mm_g [i_17, i_18, i_19, i_20, i_21, i_22, i_23, i_24, i_25, i_26, i_27, i_28, i_29, i_30, i_31, i_32, i_33, i_34, i_35, i_36, i_37, i_38, i_39, i_40, i_41, i_42, i_43, i_44, i_45, 0])))] H) (hD : va_D A [(a_0, .inr (12, [.int i_0, .ref a_1, .ref a_2, .ref a_3, .ref a_4, .ref a_5, .int i_1, .int i_2, .int i_3, .int i_4, .int i_5, .long j_0, .int i_6, .int i_7, .int i_8, .int i_9, .ref a_6, .ref a_7, .ref a_8, .ref a_9, .ref a_10, .ref a_11, .ref a_12, .ref a_13, .ref a_14, .ref a_15, .ref a_16, .ref a_17, .ref a_18, .int i_10, .int i_11, .int i_12, .int i_13, .int i_14, .int i_15, .ref a_19, .int i_16, .ref a_20])), (a_7, .inl (cy 1, 30, .inl (mm_g [i_17, i_18, i_19, i_20, i_21, i_22, i_23, i_24, i_25, i_26, i_27, i_28, i_29, i_30, i_31, i_32, i_33, i_34, i_35, i_36, i_37, i_38, i_39, i_40, i_41, i_42, i_43, i_44, i_45, 0])))]) hS
  subst hAe
  rw [hQ]
  exact W.vret hx hb hr (fun t ht hW => ⟨⟨(), rfl, trivial, by rw [ht]; exact hP, hK.warm hW, hD⟩, hS.F ht⟩) hS.2.2 dX12_tells_10

set_option maxHeartbeats 4000000 in
set_option maxRecDepth 100000 in
theorem M15_X12_clears (l : Launch) (G : va_G) (cy : Nat → ClassId) (sz : Nat) (a_0 : Nat) (i_0 : Int32) (a_1 : Nat) (a_2 : Nat) (a_3 : Nat) (a_4 : Nat) (a_5 : Nat) (i_1 : Int32) (i_2 : Int32) (i_3 : Int32) (i_4 : Int32) (i_5 : Int32) (j_0 : Int64) (i_6 : Int32) (i_7 : Int32) (i_8 : Int32) (i_9 : Int32) (a_6 : Nat) (a_7 : Nat) (a_8 : Nat) (a_9 : Nat) (a_10 : Nat) (a_11 : Nat) (a_12 : Nat) (a_13 : Nat) (a_14 : Nat) (a_15 : Nat) (a_16 : Nat) (a_17 : Nat) (a_18 : Nat) (i_10 : Int32) (i_11 : Int32) (i_12 : Int32) (i_13 : Int32) (i_14 : Int32) (i_15 : Int32) (a_19 : Nat) (i_16 : Int32) (a_20 : Nat) (i_17 : Int32) (i_18 : Int32) (i_19 : Int32) (i_20 : Int32) (i_21 : Int32) (i_22 : Int32) (i_23 : Int32) (i_24 : Int32) (i_25 : Int32) (i_26 : Int32) (i_27 : Int32) (i_28 : Int32) (i_29 : Int32) (i_30 : Int32) (i_31 : Int32) (i_32 : Int32) (i_33 : Int32) (i_34 : Int32) (i_35 : Int32) (i_36 : Int32) (i_37 : Int32) (i_38 : Int32) (i_39 : Int32) (i_40 : Int32) (i_41 : Int32) (i_42 : Int32) (i_43 : Int32) (i_44 : Int32) (i_45 : Int32) (i_46 : Int32) (i_47 : Int32) (i_48 : Int32) (i_49 : Int32) (i_50 : Int32) (i_51 : Int32) (f_0 : Nat → Int32) (h0 : mm_rg i_17 0 601) (h1 : mm_rg i_18 0 601) (h2 : mm_rg i_19 0 601) (h3 : mm_rg i_20 0 601) (h4 : mm_rg i_21 0 601) (h5 : mm_rg i_22 0 10) (h6 : mm_rg i_23 0 99) (h7 : mm_rg i_24 0 9) (h8 : mm_rg i_25 0 3) (h9 : mm_rg i_26 0 6) (h10 : mm_rg i_27 0 30) (h11 : mm_rg i_28 0 10) (h12 : mm_rg i_29 0 99) (h13 : mm_rg i_30 0 9) (h14 : mm_rg i_31 0 3) (h15 : mm_rg i_32 0 6) (h16 : mm_rg i_33 0 30) (h17 : mm_rg i_34 0 10) (h18 : mm_rg i_35 0 99) (h19 : mm_rg i_36 0 9) (h20 : mm_rg i_37 0 3) (h21 : mm_rg i_38 0 6) (h22 : mm_rg i_39 0 30) (h23 : mm_rg i_40 0 10) (h24 : mm_rg i_41 0 99) (h25 : mm_rg i_42 0 9) (h26 : mm_rg i_43 0 3) (h27 : mm_rg i_44 0 6) (h28 : mm_rg i_45 0 30) (h29 : mm_rg i_46 0 10) (h30 : mm_rg i_47 0 99) (h31 : mm_rg i_48 0 9) (h32 : mm_rg i_49 0 3) (h33 : mm_rg i_50 0 6) (h34 : mm_rg i_51 0 30) (h35 : mm_ar f_0 0 7) (h36 : mm_tl i_17 i_25 i_26) (h37 : mm_tl i_18 i_31 i_32) (h38 : mm_tl i_19 i_37 i_38) (h39 : mm_tl i_20 i_43 i_44)  : mm_CV l yX12_clears (mm_ws yX12_clears cX12_clears 2 (none)) ({ frames := 1, cells := 0, slots := 0, locals := 22 } : Room) G cy sz [(a_0, .inr (12, [.int i_0, .ref a_1, .ref a_2, .ref a_3, .ref a_4, .ref a_5, .int i_1, .int i_2, .int i_3, .int i_4, .int i_5, .long j_0, .int i_6, .int i_7, .int i_8, .int i_9, .ref a_6, .ref a_7, .ref a_8, .ref a_9, .ref a_10, .ref a_11, .ref a_12, .ref a_13, .ref a_14, .ref a_15, .ref a_16, .ref a_17, .ref a_18, .int i_10, .int i_11, .int i_12, .int i_13, .int i_14, .int i_15, .ref a_19, .int i_16, .ref a_20])), (a_6, .inl (cy 1, 5, .inl (mm_g [i_17, i_18, i_19, i_20, i_21]))), (a_7, .inl (cy 1, 30, .inl (mm_g [i_22, i_23, i_24, i_25, i_26, i_27, i_28, i_29, i_30, i_31, i_32, i_33, i_34, i_35, i_36, i_37, i_38, i_39, i_40, i_41, i_42, i_43, i_44, i_45, i_46, i_47, i_48, i_49, i_50, i_51]))), (a_9, .inl (cy 1, 15, .inl f_0))] [.ref a_0] (fun u : (Nat → Int32) => [(a_0, .inr (12, [.int i_0, .ref a_1, .ref a_2, .ref a_3, .ref a_4, .ref a_5, .int i_1, .int i_2, .int i_3, .int i_4, .int i_5, .long j_0, .int i_6, .int i_7, .int i_8, .int i_9, .ref a_6, .ref a_7, .ref a_8, .ref a_9, .ref a_10, .ref a_11, .ref a_12, .ref a_13, .ref a_14, .ref a_15, .ref a_16, .ref a_17, .ref a_18, .int i_10, .int i_11, .int i_12, .int i_13, .int i_14, .int i_15, .ref a_19, .int i_16, .ref a_20])), (a_6, .inl (cy 1, 5, .inl (mm_g [i_17, i_18, i_19, i_20, 0]))), (a_7, .inl (cy 1, 30, .inl (mm_g [i_22, i_23, i_24, i_25, i_26, i_27, i_28, i_29, i_30, i_31, i_32, i_33, i_34, i_35, i_36, i_37, i_38, i_39, i_40, i_41, i_42, i_43, i_44, i_45, 0, 0, 0, 0, 0, 0]))), (a_9, .inl (cy 1, 15, .inl u))]) (fun u : (Nat → Int32) => mm_ar u 0 7 ∧ mm_tl 0 0 0 ∧ mm_fr f_0 u 12) 0 0 := by
  refine mm_begin (lv := [(0, .ref a_0)]) (by decide) (Nat.le_of_ble_eq_true rfl) rfl ?_
  intro p e s m below meth c A ls R args Q H locs hRe hQ hAe hx hb hr hlocks hml hown hnm hts hsz hA hS hP hK hD hZ hl
  have hRf : R.frames = 1 := by rw [hRe]
  have hRl : R.locals = 22 := by rw [hRe]
  have hRc : R.cells = 0 := by rw [hRe]
  have hRs : R.slots = 0 := by rw [hRe]
  refine lv_aload_n hx hb dX12_clears_0 rfl (lv_at hl 0 rfl) ?_
  refine va_get (D := G) (ci := 12) (v := .ref a_6) (C := RX12) (T := TX12) (N := 38) hx hb hts (mm_i inlX12) hown hK.1 hP 0 rfl rfl 16 (by decide) (mm_h hts mm_w148) (fun _ h9 => h9) rfl dX12_clears_1 ?_
  refine lv_iconst (v := 4) hx hb dX12_clears_4 (by decide) ?_
  refine lv_iconst (v := 0) hx hb dX12_clears_5 (by decide) ?_
  refine va_iast hx hb hK.1 hP hD hS 1 1 rfl rfl (mm_in mm_k4 (by decide)) dX12_clears_6 ?_
  clear hP hD hS
  clear H locs
  rw [show upd (mm_g [i_17, i_18, i_19, i_20, i_21]) (4 : Int32).toNatClampNeg 0 = (mm_g [i_17, i_18, i_19, i_20, 0]) from mm_gs2 4 5 (by decide) rfl rfl rfl]
  intro H locs (hP : va_P G vwCl [(a_0, .inr (12, [.int i_0, .ref a_1, .ref a_2, .ref a_3, .ref a_4, .ref a_5, .int i_1, .int i_2, .int i_3, .int i_4, .int i_5, .long j_0, .int i_6, .int i_7, .int i_8, .int i_9, .ref a_6, .ref a_7, .ref a_8, .ref a_9, .ref a_10, .ref a_11, .ref a_12, .ref a_13, .ref a_14, .ref a_15, .ref a_16, .ref a_17, .ref a_18, .int i_10, .int i_11, .int i_12, .int i_13, .int i_14, .int i_15, .ref a_19, .int i_16, .ref a_20])), (a_6, .inl (cy 1, 5, .inl (mm_g [i_17, i_18, i_19, i_20, 0]))), (a_7, .inl (cy 1, 30, .inl (mm_g [i_22, i_23, i_24, i_25, i_26, i_27, i_28, i_29, i_30, i_31, i_32, i_33, i_34, i_35, i_36, i_37, i_38, i_39, i_40, i_41, i_42, i_43, i_44, i_45, i_46, i_47, i_48, i_49, i_50, i_51]))), (a_9, .inl (cy 1, 15, .inl f_0))] H) (hD : va_D A [(a_0, .inr (12, [.int i_0, .ref a_1, .ref a_2, .ref a_3, .ref a_4, .ref a_5, .int i_1, .int i_2, .int i_3, .int i_4, .int i_5, .long j_0, .int i_6, .int i_7, .int i_8, .int i_9, .ref a_6, .ref a_7, .ref a_8, .ref a_9, .ref a_10, .ref a_11, .ref a_12, .ref a_13, .ref a_14, .ref a_15, .ref a_16, .ref a_17, .ref a_18, .int i_10, .int i_11, .int i_12, .int i_13, .int i_14, .int i_15, .ref a_19, .int i_16, .ref a_20])), (a_6, .inl (cy 1, 5, .inl (mm_g [i_17, i_18, i_19, i_20, 0]))), (a_7, .inl (cy 1, 30, .inl (mm_g [i_22, i_23, i_24, i_25, i_26, i_27, i_28, i_29, i_30, i_31, i_32, i_33, i_34, i_35, i_36, i_37, i_38, i_39, i_40, i_41, i_42, i_43, i_44, i_45, i_46, i_47, i_48, i_49, i_50, i_51]))), (a_9, .inl (cy 1, 15, .inl f_0))]) hS
  refine lv_iconst (v := 0) hx hb dX12_clears_7 (by decide) ?_
  refine lv_istore_n (lv' := [(1, .int 0), (0, .ref a_0)]) hx hb dX12_clears_8 rfl hl (by decide) rfl ?_
  clear hl
  clear ls
  intro ls hl
  refine lv_iload_n hx hb dX12_clears_9 rfl (lv_at hl 0 rfl) ?_
  refine lv_bipush (v := 6) hx hb dX12_clears_10 (by decide) ?_
  refine lv_icmp_ge (tgt := 27) hx hb dX12_clears_12 (by decide) (fun c1 => ?_) (fun c1 => ?_)
  · have q2 := mm_leL (mm_le c1) mm_k6 mm_k0
    exact mm_no q2 (by decide)
  · refine lv_aload_n hx hb dX12_clears_15 rfl (lv_at hl 1 rfl) ?_
    refine lv_iload_n hx hb dX12_clears_16 rfl (lv_at hl 0 rfl) ?_
    refine lv_iconst (v := 0) hx hb dX12_clears_17 (by decide) ?_
    refine mm_finv (va_runV (As := [.int 0, .int 0]) (rest := []) ⟨hx, hb, hml, hown, hts⟩ (M9_X12_tells l G cy H.size a_0 i_0 a_1 a_2 a_3 a_4 a_5 i_1 i_2 i_3 i_4 i_5 j_0 i_6 i_7 i_8 i_9 a_6 a_7 a_8 a_9 a_10 a_11 a_12 a_13 a_14 a_15 a_16 a_17 a_18 i_10 i_11 i_12 i_13 i_14 i_15 a_19 i_16 a_20 i_22 i_23 i_24 i_25 i_26 i_27 i_28 i_29 i_30 i_31 i_32 i_33 i_34 i_35 i_36 i_37 i_38 i_39 i_40 i_41 i_42 i_43 i_44 i_45 i_46 i_47 i_48 i_49 i_50 i_51 h5 h6 h7 h8 h9 h10 h11 h12 h13 h14 h15 h16 h17 h18 h19 h20 h21 h22 h23 h24 h25 h26 h27 h28 h29 h30 h31 h32 h33 h34) (cwV 2 hts (mm_gV mm_w441 mm_w442 mm_w443 mm_w5 mm_w444) rfl rfl rfl hd_X12_tells ⟨by rw [hRf]; exact Nat.le_of_ble_eq_true rfl, by rw [hRl]; exact Nat.le_of_ble_eq_true rfl⟩) (mm_preV hK hZ hS hA hP hD [0, 2] rfl rfl 0 rfl rfl rfl) rfl rfl hl.1 rfl (lv_room (Nat.le_of_ble_eq_true rfl)) dX12_clears_18 ⟨by rw [hRc]; exact Nat.le_of_ble_eq_true rfl, by rw [hRs]; exact Nat.le_of_ble_eq_true rfl⟩) hP hD hS hA (fun u : Unit => [(a_0, .inr (12, [.int i_0, .ref a_1, .ref a_2, .ref a_3, .ref a_4, .ref a_5, .int i_1, .int i_2, .int i_3, .int i_4, .int i_5, .long j_0, .int i_6, .int i_7, .int i_8, .int i_9, .ref a_6, .ref a_7, .ref a_8, .ref a_9, .ref a_10, .ref a_11, .ref a_12, .ref a_13, .ref a_14, .ref a_15, .ref a_16, .ref a_17, .ref a_18, .int i_10, .int i_11, .int i_12, .int i_13, .int i_14, .int i_15, .ref a_19, .int i_16, .ref a_20])), (a_6, .inl (cy 1, 5, .inl (mm_g [i_17, i_18, i_19, i_20, 0]))), (a_7, .inl (cy 1, 30, .inl (mm_g [i_22, i_23, i_24, i_25, i_26, i_27, i_28, i_29, i_30, i_31, i_32, i_33, i_34, i_35, i_36, i_37, i_38, i_39, i_40, i_41, i_42, i_43, i_44, i_45, 0, i_47, i_48, i_49, i_50, i_51]))), (a_9, .inl (cy 1, 15, .inl f_0))]) [0, 2] [1, 3] (n := 4) (fun _ => rfl) (by decide +kernel) (by decide +kernel) rfl (fun _ => rfl) (wr := [(a_6, .inl (cy 1, 5, .inl (mm_g [i_17, i_18, i_19, i_20, 0]))), (a_9, .inl (cy 1, 15, .inl f_0))]) rfl (fun _ => rfl) (fun _ => @rfl _ ([a_0, a_7] : List Nat)) ?_
    clear hP hD hS
    clear H locs
    intro _u H locs hw (hP : va_P G vwCl [(a_0, .inr (12, [.int i_0, .ref a_1, .ref a_2, .ref a_3, .ref a_4, .ref a_5, .int i_1, .int i_2, .int i_3, .int i_4, .int i_5, .long j_0, .int i_6, .int i_7, .int i_8, .int i_9, .ref a_6, .ref a_7, .ref a_8, .ref a_9, .ref a_10, .ref a_11, .ref a_12, .ref a_13, .ref a_14, .ref a_15, .ref a_16, .ref a_17, .ref a_18, .int i_10, .int i_11, .int i_12, .int i_13, .int i_14, .int i_15, .ref a_19, .int i_16, .ref a_20])), (a_6, .inl (cy 1, 5, .inl (mm_g [i_17, i_18, i_19, i_20, 0]))), (a_7, .inl (cy 1, 30, .inl (mm_g [i_22, i_23, i_24, i_25, i_26, i_27, i_28, i_29, i_30, i_31, i_32, i_33, i_34, i_35, i_36, i_37, i_38, i_39, i_40, i_41, i_42, i_43, i_44, i_45, 0, i_47, i_48, i_49, i_50, i_51]))), (a_9, .inl (cy 1, 15, .inl f_0))] H) (hD : va_D A [(a_0, .inr (12, [.int i_0, .ref a_1, .ref a_2, .ref a_3, .ref a_4, .ref a_5, .int i_1, .int i_2, .int i_3, .int i_4, .int i_5, .long j_0, .int i_6, .int i_7, .int i_8, .int i_9, .ref a_6, .ref a_7, .ref a_8, .ref a_9, .ref a_10, .ref a_11, .ref a_12, .ref a_13, .ref a_14, .ref a_15, .ref a_16, .ref a_17, .ref a_18, .int i_10, .int i_11, .int i_12, .int i_13, .int i_14, .int i_15, .ref a_19, .int i_16, .ref a_20])), (a_6, .inl (cy 1, 5, .inl (mm_g [i_17, i_18, i_19, i_20, 0]))), (a_7, .inl (cy 1, 30, .inl (mm_g [i_22, i_23, i_24, i_25, i_26, i_27, i_28, i_29, i_30, i_31, i_32, i_33, i_34, i_35, i_36, i_37, i_38, i_39, i_40, i_41, i_42, i_43, i_44, i_45, 0, i_47, i_48, i_49, i_50, i_51]))), (a_9, .inl (cy 1, 15, .inl f_0))]) hS
    refine lv_iinc (v := 1) (lv' := [(1, .int 1), (0, .ref a_0)]) hx hb dX12_clears_21 hl (k := 0) rfl (by decide) (by decide) rfl ?_
    clear hl
    clear ls
    intro ls hl
    refine lv_goto (tgt := 9) hx hb dX12_clears_24 (by decide) ?_
    refine lv_iload_n hx hb dX12_clears_9 rfl (lv_at hl 0 rfl) ?_
    refine lv_bipush (v := 6) hx hb dX12_clears_10 (by decide) ?_
    refine lv_icmp_ge (tgt := 27) hx hb dX12_clears_12 (by decide) (fun c3 => ?_) (fun c3 => ?_)
    · have q4 := mm_leL (mm_le c3) mm_k6 mm_k1
      exact mm_no q4 (by decide)
    · refine lv_aload_n hx hb dX12_clears_15 rfl (lv_at hl 1 rfl) ?_
      refine lv_iload_n hx hb dX12_clears_16 rfl (lv_at hl 0 rfl) ?_
      refine lv_iconst (v := 0) hx hb dX12_clears_17 (by decide) ?_
      refine mm_finv (va_runV (As := [.int 1, .int 0]) (rest := []) ⟨hx, hb, hml, hown, hts⟩ (M10_X12_tells l G cy H.size a_0 i_0 a_1 a_2 a_3 a_4 a_5 i_1 i_2 i_3 i_4 i_5 j_0 i_6 i_7 i_8 i_9 a_6 a_7 a_8 a_9 a_10 a_11 a_12 a_13 a_14 a_15 a_16 a_17 a_18 i_10 i_11 i_12 i_13 i_14 i_15 a_19 i_16 a_20 i_22 i_23 i_24 i_25 i_26 i_27 i_28 i_29 i_30 i_31 i_32 i_33 i_34 i_35 i_36 i_37 i_38 i_39 i_40 i_41 i_42 i_43 i_44 i_45 0 i_47 i_48 i_49 i_50 i_51 h5 h6 h7 h8 h9 h10 h11 h12 h13 h14 h15 h16 h17 h18 h19 h20 h21 h22 h23 h24 h25 h26 h27 h28 (mm_wk mm_k0 (by decide)) h30 h31 h32 h33 h34) (cwV 2 hts (mm_gV mm_w441 mm_w442 mm_w443 mm_w5 mm_w444) rfl rfl rfl hd_X12_tells ⟨by rw [hRf]; exact Nat.le_of_ble_eq_true rfl, by rw [hRl]; exact Nat.le_of_ble_eq_true rfl⟩) (mm_preV hK hZ hS hA hP hD [0, 2] rfl rfl 0 rfl rfl rfl) rfl rfl hl.1 rfl (lv_room (Nat.le_of_ble_eq_true rfl)) dX12_clears_18 ⟨by rw [hRc]; exact Nat.le_of_ble_eq_true rfl, by rw [hRs]; exact Nat.le_of_ble_eq_true rfl⟩) hP hD hS hA (fun u : Unit => [(a_0, .inr (12, [.int i_0, .ref a_1, .ref a_2, .ref a_3, .ref a_4, .ref a_5, .int i_1, .int i_2, .int i_3, .int i_4, .int i_5, .long j_0, .int i_6, .int i_7, .int i_8, .int i_9, .ref a_6, .ref a_7, .ref a_8, .ref a_9, .ref a_10, .ref a_11, .ref a_12, .ref a_13, .ref a_14, .ref a_15, .ref a_16, .ref a_17, .ref a_18, .int i_10, .int i_11, .int i_12, .int i_13, .int i_14, .int i_15, .ref a_19, .int i_16, .ref a_20])), (a_6, .inl (cy 1, 5, .inl (mm_g [i_17, i_18, i_19, i_20, 0]))), (a_7, .inl (cy 1, 30, .inl (mm_g [i_22, i_23, i_24, i_25, i_26, i_27, i_28, i_29, i_30, i_31, i_32, i_33, i_34, i_35, i_36, i_37, i_38, i_39, i_40, i_41, i_42, i_43, i_44, i_45, 0, 0, i_48, i_49, i_50, i_51]))), (a_9, .inl (cy 1, 15, .inl f_0))]) [0, 2] [1, 3] (n := 4) (fun _ => rfl) (by decide +kernel) (by decide +kernel) rfl (fun _ => rfl) (wr := [(a_6, .inl (cy 1, 5, .inl (mm_g [i_17, i_18, i_19, i_20, 0]))), (a_9, .inl (cy 1, 15, .inl f_0))]) rfl (fun _ => rfl) (fun _ => @rfl _ ([a_0, a_7] : List Nat)) ?_
      clear hP hD hS
      clear H locs
      intro _u H locs hw (hP : va_P G vwCl [(a_0, .inr (12, [.int i_0, .ref a_1, .ref a_2, .ref a_3, .ref a_4, .ref a_5, .int i_1, .int i_2, .int i_3, .int i_4, .int i_5, .long j_0, .int i_6, .int i_7, .int i_8, .int i_9, .ref a_6, .ref a_7, .ref a_8, .ref a_9, .ref a_10, .ref a_11, .ref a_12, .ref a_13, .ref a_14, .ref a_15, .ref a_16, .ref a_17, .ref a_18, .int i_10, .int i_11, .int i_12, .int i_13, .int i_14, .int i_15, .ref a_19, .int i_16, .ref a_20])), (a_6, .inl (cy 1, 5, .inl (mm_g [i_17, i_18, i_19, i_20, 0]))), (a_7, .inl (cy 1, 30, .inl (mm_g [i_22, i_23, i_24, i_25, i_26, i_27, i_28, i_29, i_30, i_31, i_32, i_33, i_34, i_35, i_36, i_37, i_38, i_39, i_40, i_41, i_42, i_43, i_44, i_45, 0, 0, i_48, i_49, i_50, i_51]))), (a_9, .inl (cy 1, 15, .inl f_0))] H) (hD : va_D A [(a_0, .inr (12, [.int i_0, .ref a_1, .ref a_2, .ref a_3, .ref a_4, .ref a_5, .int i_1, .int i_2, .int i_3, .int i_4, .int i_5, .long j_0, .int i_6, .int i_7, .int i_8, .int i_9, .ref a_6, .ref a_7, .ref a_8, .ref a_9, .ref a_10, .ref a_11, .ref a_12, .ref a_13, .ref a_14, .ref a_15, .ref a_16, .ref a_17, .ref a_18, .int i_10, .int i_11, .int i_12, .int i_13, .int i_14, .int i_15, .ref a_19, .int i_16, .ref a_20])), (a_6, .inl (cy 1, 5, .inl (mm_g [i_17, i_18, i_19, i_20, 0]))), (a_7, .inl (cy 1, 30, .inl (mm_g [i_22, i_23, i_24, i_25, i_26, i_27, i_28, i_29, i_30, i_31, i_32, i_33, i_34, i_35, i_36, i_37, i_38, i_39, i_40, i_41, i_42, i_43, i_44, i_45, 0, 0, i_48, i_49, i_50, i_51]))), (a_9, .inl (cy 1, 15, .inl f_0))]) hS
      refine lv_iinc (v := 2) (lv' := [(1, .int 2), (0, .ref a_0)]) hx hb dX12_clears_21 hl (k := 0) rfl (by decide) (by decide) rfl ?_
      clear hl
      clear ls
      intro ls hl
      refine lv_goto (tgt := 9) hx hb dX12_clears_24 (by decide) ?_
      refine lv_iload_n hx hb dX12_clears_9 rfl (lv_at hl 0 rfl) ?_
      refine lv_bipush (v := 6) hx hb dX12_clears_10 (by decide) ?_
      refine lv_icmp_ge (tgt := 27) hx hb dX12_clears_12 (by decide) (fun c5 => ?_) (fun c5 => ?_)
      · have q6 := mm_leL (mm_le c5) mm_k6 mm_k2
        exact mm_no q6 (by decide)
      · refine lv_aload_n hx hb dX12_clears_15 rfl (lv_at hl 1 rfl) ?_
        refine lv_iload_n hx hb dX12_clears_16 rfl (lv_at hl 0 rfl) ?_
        refine lv_iconst (v := 0) hx hb dX12_clears_17 (by decide) ?_
        refine mm_finv (va_runV (As := [.int 2, .int 0]) (rest := []) ⟨hx, hb, hml, hown, hts⟩ (M11_X12_tells l G cy H.size a_0 i_0 a_1 a_2 a_3 a_4 a_5 i_1 i_2 i_3 i_4 i_5 j_0 i_6 i_7 i_8 i_9 a_6 a_7 a_8 a_9 a_10 a_11 a_12 a_13 a_14 a_15 a_16 a_17 a_18 i_10 i_11 i_12 i_13 i_14 i_15 a_19 i_16 a_20 i_22 i_23 i_24 i_25 i_26 i_27 i_28 i_29 i_30 i_31 i_32 i_33 i_34 i_35 i_36 i_37 i_38 i_39 i_40 i_41 i_42 i_43 i_44 i_45 0 0 i_48 i_49 i_50 i_51 h5 h6 h7 h8 h9 h10 h11 h12 h13 h14 h15 h16 h17 h18 h19 h20 h21 h22 h23 h24 h25 h26 h27 h28 (mm_wk mm_k0 (by decide)) (mm_wk mm_k0 (by decide)) h31 h32 h33 h34) (cwV 2 hts (mm_gV mm_w441 mm_w442 mm_w443 mm_w5 mm_w444) rfl rfl rfl hd_X12_tells ⟨by rw [hRf]; exact Nat.le_of_ble_eq_true rfl, by rw [hRl]; exact Nat.le_of_ble_eq_true rfl⟩) (mm_preV hK hZ hS hA hP hD [0, 2] rfl rfl 0 rfl rfl rfl) rfl rfl hl.1 rfl (lv_room (Nat.le_of_ble_eq_true rfl)) dX12_clears_18 ⟨by rw [hRc]; exact Nat.le_of_ble_eq_true rfl, by rw [hRs]; exact Nat.le_of_ble_eq_true rfl⟩) hP hD hS hA (fun u : Unit => [(a_0, .inr (12, [.int i_0, .ref a_1, .ref a_2, .ref a_3, .ref a_4, .ref a_5, .int i_1, .int i_2, .int i_3, .int i_4, .int i_5, .long j_0, .int i_6, .int i_7, .int i_8, .int i_9, .ref a_6, .ref a_7, .ref a_8, .ref a_9, .ref a_10, .ref a_11, .ref a_12, .ref a_13, .ref a_14, .ref a_15, .ref a_16, .ref a_17, .ref a_18, .int i_10, .int i_11, .int i_12, .int i_13, .int i_14, .int i_15, .ref a_19, .int i_16, .ref a_20])), (a_6, .inl (cy 1, 5, .inl (mm_g [i_17, i_18, i_19, i_20, 0]))), (a_7, .inl (cy 1, 30, .inl (mm_g [i_22, i_23, i_24, i_25, i_26, i_27, i_28, i_29, i_30, i_31, i_32, i_33, i_34, i_35, i_36, i_37, i_38, i_39, i_40, i_41, i_42, i_43, i_44, i_45, 0, 0, 0, i_49, i_50, i_51]))), (a_9, .inl (cy 1, 15, .inl f_0))]) [0, 2] [1, 3] (n := 4) (fun _ => rfl) (by decide +kernel) (by decide +kernel) rfl (fun _ => rfl) (wr := [(a_6, .inl (cy 1, 5, .inl (mm_g [i_17, i_18, i_19, i_20, 0]))), (a_9, .inl (cy 1, 15, .inl f_0))]) rfl (fun _ => rfl) (fun _ => @rfl _ ([a_0, a_7] : List Nat)) ?_
        clear hP hD hS
        clear H locs
        intro _u H locs hw (hP : va_P G vwCl [(a_0, .inr (12, [.int i_0, .ref a_1, .ref a_2, .ref a_3, .ref a_4, .ref a_5, .int i_1, .int i_2, .int i_3, .int i_4, .int i_5, .long j_0, .int i_6, .int i_7, .int i_8, .int i_9, .ref a_6, .ref a_7, .ref a_8, .ref a_9, .ref a_10, .ref a_11, .ref a_12, .ref a_13, .ref a_14, .ref a_15, .ref a_16, .ref a_17, .ref a_18, .int i_10, .int i_11, .int i_12, .int i_13, .int i_14, .int i_15, .ref a_19, .int i_16, .ref a_20])), (a_6, .inl (cy 1, 5, .inl (mm_g [i_17, i_18, i_19, i_20, 0]))), (a_7, .inl (cy 1, 30, .inl (mm_g [i_22, i_23, i_24, i_25, i_26, i_27, i_28, i_29, i_30, i_31, i_32, i_33, i_34, i_35, i_36, i_37, i_38, i_39, i_40, i_41, i_42, i_43, i_44, i_45, 0, 0, 0, i_49, i_50, i_51]))), (a_9, .inl (cy 1, 15, .inl f_0))] H) (hD : va_D A [(a_0, .inr (12, [.int i_0, .ref a_1, .ref a_2, .ref a_3, .ref a_4, .ref a_5, .int i_1, .int i_2, .int i_3, .int i_4, .int i_5, .long j_0, .int i_6, .int i_7, .int i_8, .int i_9, .ref a_6, .ref a_7, .ref a_8, .ref a_9, .ref a_10, .ref a_11, .ref a_12, .ref a_13, .ref a_14, .ref a_15, .ref a_16, .ref a_17, .ref a_18, .int i_10, .int i_11, .int i_12, .int i_13, .int i_14, .int i_15, .ref a_19, .int i_16, .ref a_20])), (a_6, .inl (cy 1, 5, .inl (mm_g [i_17, i_18, i_19, i_20, 0]))), (a_7, .inl (cy 1, 30, .inl (mm_g [i_22, i_23, i_24, i_25, i_26, i_27, i_28, i_29, i_30, i_31, i_32, i_33, i_34, i_35, i_36, i_37, i_38, i_39, i_40, i_41, i_42, i_43, i_44, i_45, 0, 0, 0, i_49, i_50, i_51]))), (a_9, .inl (cy 1, 15, .inl f_0))]) hS
        refine lv_iinc (v := 3) (lv' := [(1, .int 3), (0, .ref a_0)]) hx hb dX12_clears_21 hl (k := 0) rfl (by decide) (by decide) rfl ?_
        clear hl
        clear ls
        intro ls hl
        refine lv_goto (tgt := 9) hx hb dX12_clears_24 (by decide) ?_
        refine lv_iload_n hx hb dX12_clears_9 rfl (lv_at hl 0 rfl) ?_
        refine lv_bipush (v := 6) hx hb dX12_clears_10 (by decide) ?_
        refine lv_icmp_ge (tgt := 27) hx hb dX12_clears_12 (by decide) (fun c7 => ?_) (fun c7 => ?_)
        · have q8 := mm_leL (mm_le c7) mm_k6 mm_k3
          exact mm_no q8 (by decide)
        · refine lv_aload_n hx hb dX12_clears_15 rfl (lv_at hl 1 rfl) ?_
          refine lv_iload_n hx hb dX12_clears_16 rfl (lv_at hl 0 rfl) ?_
          refine lv_iconst (v := 0) hx hb dX12_clears_17 (by decide) ?_
          refine mm_finv (va_runV (As := [.int 3, .int 0]) (rest := []) ⟨hx, hb, hml, hown, hts⟩ (M12_X12_tells l G cy H.size a_0 i_0 a_1 a_2 a_3 a_4 a_5 i_1 i_2 i_3 i_4 i_5 j_0 i_6 i_7 i_8 i_9 a_6 a_7 a_8 a_9 a_10 a_11 a_12 a_13 a_14 a_15 a_16 a_17 a_18 i_10 i_11 i_12 i_13 i_14 i_15 a_19 i_16 a_20 i_22 i_23 i_24 i_25 i_26 i_27 i_28 i_29 i_30 i_31 i_32 i_33 i_34 i_35 i_36 i_37 i_38 i_39 i_40 i_41 i_42 i_43 i_44 i_45 0 0 0 i_49 i_50 i_51 h5 h6 h7 h8 h9 h10 h11 h12 h13 h14 h15 h16 h17 h18 h19 h20 h21 h22 h23 h24 h25 h26 h27 h28 (mm_wk mm_k0 (by decide)) (mm_wk mm_k0 (by decide)) (mm_wk mm_k0 (by decide)) h32 h33 h34) (cwV 2 hts (mm_gV mm_w441 mm_w442 mm_w443 mm_w5 mm_w444) rfl rfl rfl hd_X12_tells ⟨by rw [hRf]; exact Nat.le_of_ble_eq_true rfl, by rw [hRl]; exact Nat.le_of_ble_eq_true rfl⟩) (mm_preV hK hZ hS hA hP hD [0, 2] rfl rfl 0 rfl rfl rfl) rfl rfl hl.1 rfl (lv_room (Nat.le_of_ble_eq_true rfl)) dX12_clears_18 ⟨by rw [hRc]; exact Nat.le_of_ble_eq_true rfl, by rw [hRs]; exact Nat.le_of_ble_eq_true rfl⟩) hP hD hS hA (fun u : Unit => [(a_0, .inr (12, [.int i_0, .ref a_1, .ref a_2, .ref a_3, .ref a_4, .ref a_5, .int i_1, .int i_2, .int i_3, .int i_4, .int i_5, .long j_0, .int i_6, .int i_7, .int i_8, .int i_9, .ref a_6, .ref a_7, .ref a_8, .ref a_9, .ref a_10, .ref a_11, .ref a_12, .ref a_13, .ref a_14, .ref a_15, .ref a_16, .ref a_17, .ref a_18, .int i_10, .int i_11, .int i_12, .int i_13, .int i_14, .int i_15, .ref a_19, .int i_16, .ref a_20])), (a_6, .inl (cy 1, 5, .inl (mm_g [i_17, i_18, i_19, i_20, 0]))), (a_7, .inl (cy 1, 30, .inl (mm_g [i_22, i_23, i_24, i_25, i_26, i_27, i_28, i_29, i_30, i_31, i_32, i_33, i_34, i_35, i_36, i_37, i_38, i_39, i_40, i_41, i_42, i_43, i_44, i_45, 0, 0, 0, 0, i_50, i_51]))), (a_9, .inl (cy 1, 15, .inl f_0))]) [0, 2] [1, 3] (n := 4) (fun _ => rfl) (by decide +kernel) (by decide +kernel) rfl (fun _ => rfl) (wr := [(a_6, .inl (cy 1, 5, .inl (mm_g [i_17, i_18, i_19, i_20, 0]))), (a_9, .inl (cy 1, 15, .inl f_0))]) rfl (fun _ => rfl) (fun _ => @rfl _ ([a_0, a_7] : List Nat)) ?_
          clear hP hD hS
          clear H locs
          intro _u H locs hw (hP : va_P G vwCl [(a_0, .inr (12, [.int i_0, .ref a_1, .ref a_2, .ref a_3, .ref a_4, .ref a_5, .int i_1, .int i_2, .int i_3, .int i_4, .int i_5, .long j_0, .int i_6, .int i_7, .int i_8, .int i_9, .ref a_6, .ref a_7, .ref a_8, .ref a_9, .ref a_10, .ref a_11, .ref a_12, .ref a_13, .ref a_14, .ref a_15, .ref a_16, .ref a_17, .ref a_18, .int i_10, .int i_11, .int i_12, .int i_13, .int i_14, .int i_15, .ref a_19, .int i_16, .ref a_20])), (a_6, .inl (cy 1, 5, .inl (mm_g [i_17, i_18, i_19, i_20, 0]))), (a_7, .inl (cy 1, 30, .inl (mm_g [i_22, i_23, i_24, i_25, i_26, i_27, i_28, i_29, i_30, i_31, i_32, i_33, i_34, i_35, i_36, i_37, i_38, i_39, i_40, i_41, i_42, i_43, i_44, i_45, 0, 0, 0, 0, i_50, i_51]))), (a_9, .inl (cy 1, 15, .inl f_0))] H) (hD : va_D A [(a_0, .inr (12, [.int i_0, .ref a_1, .ref a_2, .ref a_3, .ref a_4, .ref a_5, .int i_1, .int i_2, .int i_3, .int i_4, .int i_5, .long j_0, .int i_6, .int i_7, .int i_8, .int i_9, .ref a_6, .ref a_7, .ref a_8, .ref a_9, .ref a_10, .ref a_11, .ref a_12, .ref a_13, .ref a_14, .ref a_15, .ref a_16, .ref a_17, .ref a_18, .int i_10, .int i_11, .int i_12, .int i_13, .int i_14, .int i_15, .ref a_19, .int i_16, .ref a_20])), (a_6, .inl (cy 1, 5, .inl (mm_g [i_17, i_18, i_19, i_20, 0]))), (a_7, .inl (cy 1, 30, .inl (mm_g [i_22, i_23, i_24, i_25, i_26, i_27, i_28, i_29, i_30, i_31, i_32, i_33, i_34, i_35, i_36, i_37, i_38, i_39, i_40, i_41, i_42, i_43, i_44, i_45, 0, 0, 0, 0, i_50, i_51]))), (a_9, .inl (cy 1, 15, .inl f_0))]) hS
          refine lv_iinc (v := 4) (lv' := [(1, .int 4), (0, .ref a_0)]) hx hb dX12_clears_21 hl (k := 0) rfl (by decide) (by decide) rfl ?_
          clear hl
          clear ls
          intro ls hl
          refine lv_goto (tgt := 9) hx hb dX12_clears_24 (by decide) ?_
          refine lv_iload_n hx hb dX12_clears_9 rfl (lv_at hl 0 rfl) ?_
          refine lv_bipush (v := 6) hx hb dX12_clears_10 (by decide) ?_
          refine lv_icmp_ge (tgt := 27) hx hb dX12_clears_12 (by decide) (fun c9 => ?_) (fun c9 => ?_)
          · have q10 := mm_leL (mm_le c9) mm_k6 mm_k4
            exact mm_no q10 (by decide)
          · refine lv_aload_n hx hb dX12_clears_15 rfl (lv_at hl 1 rfl) ?_
            refine lv_iload_n hx hb dX12_clears_16 rfl (lv_at hl 0 rfl) ?_
            refine lv_iconst (v := 0) hx hb dX12_clears_17 (by decide) ?_
            refine mm_finv (va_runV (As := [.int 4, .int 0]) (rest := []) ⟨hx, hb, hml, hown, hts⟩ (M13_X12_tells l G cy H.size a_0 i_0 a_1 a_2 a_3 a_4 a_5 i_1 i_2 i_3 i_4 i_5 j_0 i_6 i_7 i_8 i_9 a_6 a_7 a_8 a_9 a_10 a_11 a_12 a_13 a_14 a_15 a_16 a_17 a_18 i_10 i_11 i_12 i_13 i_14 i_15 a_19 i_16 a_20 i_22 i_23 i_24 i_25 i_26 i_27 i_28 i_29 i_30 i_31 i_32 i_33 i_34 i_35 i_36 i_37 i_38 i_39 i_40 i_41 i_42 i_43 i_44 i_45 0 0 0 0 i_50 i_51 h5 h6 h7 h8 h9 h10 h11 h12 h13 h14 h15 h16 h17 h18 h19 h20 h21 h22 h23 h24 h25 h26 h27 h28 (mm_wk mm_k0 (by decide)) (mm_wk mm_k0 (by decide)) (mm_wk mm_k0 (by decide)) (mm_wk mm_k0 (by decide)) h33 h34) (cwV 2 hts (mm_gV mm_w441 mm_w442 mm_w443 mm_w5 mm_w444) rfl rfl rfl hd_X12_tells ⟨by rw [hRf]; exact Nat.le_of_ble_eq_true rfl, by rw [hRl]; exact Nat.le_of_ble_eq_true rfl⟩) (mm_preV hK hZ hS hA hP hD [0, 2] rfl rfl 0 rfl rfl rfl) rfl rfl hl.1 rfl (lv_room (Nat.le_of_ble_eq_true rfl)) dX12_clears_18 ⟨by rw [hRc]; exact Nat.le_of_ble_eq_true rfl, by rw [hRs]; exact Nat.le_of_ble_eq_true rfl⟩) hP hD hS hA (fun u : Unit => [(a_0, .inr (12, [.int i_0, .ref a_1, .ref a_2, .ref a_3, .ref a_4, .ref a_5, .int i_1, .int i_2, .int i_3, .int i_4, .int i_5, .long j_0, .int i_6, .int i_7, .int i_8, .int i_9, .ref a_6, .ref a_7, .ref a_8, .ref a_9, .ref a_10, .ref a_11, .ref a_12, .ref a_13, .ref a_14, .ref a_15, .ref a_16, .ref a_17, .ref a_18, .int i_10, .int i_11, .int i_12, .int i_13, .int i_14, .int i_15, .ref a_19, .int i_16, .ref a_20])), (a_6, .inl (cy 1, 5, .inl (mm_g [i_17, i_18, i_19, i_20, 0]))), (a_7, .inl (cy 1, 30, .inl (mm_g [i_22, i_23, i_24, i_25, i_26, i_27, i_28, i_29, i_30, i_31, i_32, i_33, i_34, i_35, i_36, i_37, i_38, i_39, i_40, i_41, i_42, i_43, i_44, i_45, 0, 0, 0, 0, 0, i_51]))), (a_9, .inl (cy 1, 15, .inl f_0))]) [0, 2] [1, 3] (n := 4) (fun _ => rfl) (by decide +kernel) (by decide +kernel) rfl (fun _ => rfl) (wr := [(a_6, .inl (cy 1, 5, .inl (mm_g [i_17, i_18, i_19, i_20, 0]))), (a_9, .inl (cy 1, 15, .inl f_0))]) rfl (fun _ => rfl) (fun _ => @rfl _ ([a_0, a_7] : List Nat)) ?_
            clear hP hD hS
            clear H locs
            intro _u H locs hw (hP : va_P G vwCl [(a_0, .inr (12, [.int i_0, .ref a_1, .ref a_2, .ref a_3, .ref a_4, .ref a_5, .int i_1, .int i_2, .int i_3, .int i_4, .int i_5, .long j_0, .int i_6, .int i_7, .int i_8, .int i_9, .ref a_6, .ref a_7, .ref a_8, .ref a_9, .ref a_10, .ref a_11, .ref a_12, .ref a_13, .ref a_14, .ref a_15, .ref a_16, .ref a_17, .ref a_18, .int i_10, .int i_11, .int i_12, .int i_13, .int i_14, .int i_15, .ref a_19, .int i_16, .ref a_20])), (a_6, .inl (cy 1, 5, .inl (mm_g [i_17, i_18, i_19, i_20, 0]))), (a_7, .inl (cy 1, 30, .inl (mm_g [i_22, i_23, i_24, i_25, i_26, i_27, i_28, i_29, i_30, i_31, i_32, i_33, i_34, i_35, i_36, i_37, i_38, i_39, i_40, i_41, i_42, i_43, i_44, i_45, 0, 0, 0, 0, 0, i_51]))), (a_9, .inl (cy 1, 15, .inl f_0))] H) (hD : va_D A [(a_0, .inr (12, [.int i_0, .ref a_1, .ref a_2, .ref a_3, .ref a_4, .ref a_5, .int i_1, .int i_2, .int i_3, .int i_4, .int i_5, .long j_0, .int i_6, .int i_7, .int i_8, .int i_9, .ref a_6, .ref a_7, .ref a_8, .ref a_9, .ref a_10, .ref a_11, .ref a_12, .ref a_13, .ref a_14, .ref a_15, .ref a_16, .ref a_17, .ref a_18, .int i_10, .int i_11, .int i_12, .int i_13, .int i_14, .int i_15, .ref a_19, .int i_16, .ref a_20])), (a_6, .inl (cy 1, 5, .inl (mm_g [i_17, i_18, i_19, i_20, 0]))), (a_7, .inl (cy 1, 30, .inl (mm_g [i_22, i_23, i_24, i_25, i_26, i_27, i_28, i_29, i_30, i_31, i_32, i_33, i_34, i_35, i_36, i_37, i_38, i_39, i_40, i_41, i_42, i_43, i_44, i_45, 0, 0, 0, 0, 0, i_51]))), (a_9, .inl (cy 1, 15, .inl f_0))]) hS
            refine lv_iinc (v := 5) (lv' := [(1, .int 5), (0, .ref a_0)]) hx hb dX12_clears_21 hl (k := 0) rfl (by decide) (by decide) rfl ?_
            clear hl
            clear ls
            intro ls hl
            refine lv_goto (tgt := 9) hx hb dX12_clears_24 (by decide) ?_
            refine lv_iload_n hx hb dX12_clears_9 rfl (lv_at hl 0 rfl) ?_
            refine lv_bipush (v := 6) hx hb dX12_clears_10 (by decide) ?_
            refine lv_icmp_ge (tgt := 27) hx hb dX12_clears_12 (by decide) (fun c11 => ?_) (fun c11 => ?_)
            · have q12 := mm_leL (mm_le c11) mm_k6 mm_k5
              exact mm_no q12 (by decide)
            · refine lv_aload_n hx hb dX12_clears_15 rfl (lv_at hl 1 rfl) ?_
              refine lv_iload_n hx hb dX12_clears_16 rfl (lv_at hl 0 rfl) ?_
              refine lv_iconst (v := 0) hx hb dX12_clears_17 (by decide) ?_
              refine mm_finv (va_runV (As := [.int 5, .int 0]) (rest := []) ⟨hx, hb, hml, hown, hts⟩ (M14_X12_tells l G cy H.size a_0 i_0 a_1 a_2 a_3 a_4 a_5 i_1 i_2 i_3 i_4 i_5 j_0 i_6 i_7 i_8 i_9 a_6 a_7 a_8 a_9 a_10 a_11 a_12 a_13 a_14 a_15 a_16 a_17 a_18 i_10 i_11 i_12 i_13 i_14 i_15 a_19 i_16 a_20 i_22 i_23 i_24 i_25 i_26 i_27 i_28 i_29 i_30 i_31 i_32 i_33 i_34 i_35 i_36 i_37 i_38 i_39 i_40 i_41 i_42 i_43 i_44 i_45 0 0 0 0 0 i_51 h5 h6 h7 h8 h9 h10 h11 h12 h13 h14 h15 h16 h17 h18 h19 h20 h21 h22 h23 h24 h25 h26 h27 h28 (mm_wk mm_k0 (by decide)) (mm_wk mm_k0 (by decide)) (mm_wk mm_k0 (by decide)) (mm_wk mm_k0 (by decide)) (mm_wk mm_k0 (by decide)) h34) (cwV 2 hts (mm_gV mm_w441 mm_w442 mm_w443 mm_w5 mm_w444) rfl rfl rfl hd_X12_tells ⟨by rw [hRf]; exact Nat.le_of_ble_eq_true rfl, by rw [hRl]; exact Nat.le_of_ble_eq_true rfl⟩) (mm_preV hK hZ hS hA hP hD [0, 2] rfl rfl 0 rfl rfl rfl) rfl rfl hl.1 rfl (lv_room (Nat.le_of_ble_eq_true rfl)) dX12_clears_18 ⟨by rw [hRc]; exact Nat.le_of_ble_eq_true rfl, by rw [hRs]; exact Nat.le_of_ble_eq_true rfl⟩) hP hD hS hA (fun u : Unit => [(a_0, .inr (12, [.int i_0, .ref a_1, .ref a_2, .ref a_3, .ref a_4, .ref a_5, .int i_1, .int i_2, .int i_3, .int i_4, .int i_5, .long j_0, .int i_6, .int i_7, .int i_8, .int i_9, .ref a_6, .ref a_7, .ref a_8, .ref a_9, .ref a_10, .ref a_11, .ref a_12, .ref a_13, .ref a_14, .ref a_15, .ref a_16, .ref a_17, .ref a_18, .int i_10, .int i_11, .int i_12, .int i_13, .int i_14, .int i_15, .ref a_19, .int i_16, .ref a_20])), (a_6, .inl (cy 1, 5, .inl (mm_g [i_17, i_18, i_19, i_20, 0]))), (a_7, .inl (cy 1, 30, .inl (mm_g [i_22, i_23, i_24, i_25, i_26, i_27, i_28, i_29, i_30, i_31, i_32, i_33, i_34, i_35, i_36, i_37, i_38, i_39, i_40, i_41, i_42, i_43, i_44, i_45, 0, 0, 0, 0, 0, 0]))), (a_9, .inl (cy 1, 15, .inl f_0))]) [0, 2] [1, 3] (n := 4) (fun _ => rfl) (by decide +kernel) (by decide +kernel) rfl (fun _ => rfl) (wr := [(a_6, .inl (cy 1, 5, .inl (mm_g [i_17, i_18, i_19, i_20, 0]))), (a_9, .inl (cy 1, 15, .inl f_0))]) rfl (fun _ => rfl) (fun _ => @rfl _ ([a_0, a_7] : List Nat)) ?_
              clear hP hD hS
              clear H locs
              intro _u H locs hw (hP : va_P G vwCl [(a_0, .inr (12, [.int i_0, .ref a_1, .ref a_2, .ref a_3, .ref a_4, .ref a_5, .int i_1, .int i_2, .int i_3, .int i_4, .int i_5, .long j_0, .int i_6, .int i_7, .int i_8, .int i_9, .ref a_6, .ref a_7, .ref a_8, .ref a_9, .ref a_10, .ref a_11, .ref a_12, .ref a_13, .ref a_14, .ref a_15, .ref a_16, .ref a_17, .ref a_18, .int i_10, .int i_11, .int i_12, .int i_13, .int i_14, .int i_15, .ref a_19, .int i_16, .ref a_20])), (a_6, .inl (cy 1, 5, .inl (mm_g [i_17, i_18, i_19, i_20, 0]))), (a_7, .inl (cy 1, 30, .inl (mm_g [i_22, i_23, i_24, i_25, i_26, i_27, i_28, i_29, i_30, i_31, i_32, i_33, i_34, i_35, i_36, i_37, i_38, i_39, i_40, i_41, i_42, i_43, i_44, i_45, 0, 0, 0, 0, 0, 0]))), (a_9, .inl (cy 1, 15, .inl f_0))] H) (hD : va_D A [(a_0, .inr (12, [.int i_0, .ref a_1, .ref a_2, .ref a_3, .ref a_4, .ref a_5, .int i_1, .int i_2, .int i_3, .int i_4, .int i_5, .long j_0, .int i_6, .int i_7, .int i_8, .int i_9, .ref a_6, .ref a_7, .ref a_8, .ref a_9, .ref a_10, .ref a_11, .ref a_12, .ref a_13, .ref a_14, .ref a_15, .ref a_16, .ref a_17, .ref a_18, .int i_10, .int i_11, .int i_12, .int i_13, .int i_14, .int i_15, .ref a_19, .int i_16, .ref a_20])), (a_6, .inl (cy 1, 5, .inl (mm_g [i_17, i_18, i_19, i_20, 0]))), (a_7, .inl (cy 1, 30, .inl (mm_g [i_22, i_23, i_24, i_25, i_26, i_27, i_28, i_29, i_30, i_31, i_32, i_33, i_34, i_35, i_36, i_37, i_38, i_39, i_40, i_41, i_42, i_43, i_44, i_45, 0, 0, 0, 0, 0, 0]))), (a_9, .inl (cy 1, 15, .inl f_0))]) hS
              refine lv_iinc (v := 6) (lv' := [(1, .int 6), (0, .ref a_0)]) hx hb dX12_clears_21 hl (k := 0) rfl (by decide) (by decide) rfl ?_
              clear hl
              clear ls
              intro ls hl
              refine lv_goto (tgt := 9) hx hb dX12_clears_24 (by decide) ?_
              refine lv_iload_n hx hb dX12_clears_9 rfl (lv_at hl 0 rfl) ?_
              refine lv_bipush (v := 6) hx hb dX12_clears_10 (by decide) ?_
              refine lv_icmp_ge (tgt := 27) hx hb dX12_clears_12 (by decide) (fun c13 => ?_) (fun c13 => ?_)
              · refine lv_iconst (v := 0) hx hb dX12_clears_27 (by decide) ?_
                refine lv_istore_n (lv' := [(1, .int 0), (0, .ref a_0)]) hx hb dX12_clears_28 rfl hl (by decide) rfl ?_
                clear hl
                clear ls
                intro ls hl
                refine lv_iload_n hx hb dX12_clears_29 rfl (lv_at hl 0 rfl) ?_
                refine lv_iconst (v := 3) hx hb dX12_clears_30 (by decide) ?_
                refine lv_icmp_ge (tgt := 50) hx hb dX12_clears_31 (by decide) (fun c14 => ?_) (fun c14 => ?_)
                · have q15 := mm_leL (mm_le c14) mm_k3 mm_k0
                  exact mm_no q15 (by decide)
                · refine lv_aload_n hx hb dX12_clears_34 rfl (lv_at hl 1 rfl) ?_
                  refine va_get (D := G) (ci := 12) (v := .ref a_9) (C := RX12) (T := TX12) (N := 38) hx hb hts (mm_i inlX12) hown hK.1 hP 0 rfl rfl 19 (by decide) (mm_h hts mm_w151) (fun _ h9 => h9) rfl dX12_clears_35 ?_
                  refine lv_bipush (v := 12) hx hb dX12_clears_38 (by decide) ?_
                  refine lv_iload_n hx hb dX12_clears_40 rfl (lv_at hl 0 rfl) ?_
                  refine lv_iadd hx hb dX12_clears_41 ?_
                  refine lv_topi (fun v16 ev16 => ?_)
                  obtain rfl : v16 = 12 := ev16.trans (by decide)
                  refine lv_iconst (v := 0) hx hb dX12_clears_42 (by decide) ?_
                  refine va_iast hx hb hK.1 hP hD hS 3 1 rfl rfl (mm_in mm_k12 (by decide)) dX12_clears_43 ?_
                  clear hP hD hS
                  clear H locs
                  obtain ⟨g17, eg17⟩ : ∃ z : Nat → Int32, z = upd f_0 (12 : Int32).toNatClampNeg 0 := ⟨_, rfl⟩
                  rw [← eg17]
                  intro H locs (hP : va_P G vwCl [(a_0, .inr (12, [.int i_0, .ref a_1, .ref a_2, .ref a_3, .ref a_4, .ref a_5, .int i_1, .int i_2, .int i_3, .int i_4, .int i_5, .long j_0, .int i_6, .int i_7, .int i_8, .int i_9, .ref a_6, .ref a_7, .ref a_8, .ref a_9, .ref a_10, .ref a_11, .ref a_12, .ref a_13, .ref a_14, .ref a_15, .ref a_16, .ref a_17, .ref a_18, .int i_10, .int i_11, .int i_12, .int i_13, .int i_14, .int i_15, .ref a_19, .int i_16, .ref a_20])), (a_6, .inl (cy 1, 5, .inl (mm_g [i_17, i_18, i_19, i_20, 0]))), (a_7, .inl (cy 1, 30, .inl (mm_g [i_22, i_23, i_24, i_25, i_26, i_27, i_28, i_29, i_30, i_31, i_32, i_33, i_34, i_35, i_36, i_37, i_38, i_39, i_40, i_41, i_42, i_43, i_44, i_45, 0, 0, 0, 0, 0, 0]))), (a_9, .inl (cy 1, 15, .inl g17))] H) (hD : va_D A [(a_0, .inr (12, [.int i_0, .ref a_1, .ref a_2, .ref a_3, .ref a_4, .ref a_5, .int i_1, .int i_2, .int i_3, .int i_4, .int i_5, .long j_0, .int i_6, .int i_7, .int i_8, .int i_9, .ref a_6, .ref a_7, .ref a_8, .ref a_9, .ref a_10, .ref a_11, .ref a_12, .ref a_13, .ref a_14, .ref a_15, .ref a_16, .ref a_17, .ref a_18, .int i_10, .int i_11, .int i_12, .int i_13, .int i_14, .int i_15, .ref a_19, .int i_16, .ref a_20])), (a_6, .inl (cy 1, 5, .inl (mm_g [i_17, i_18, i_19, i_20, 0]))), (a_7, .inl (cy 1, 30, .inl (mm_g [i_22, i_23, i_24, i_25, i_26, i_27, i_28, i_29, i_30, i_31, i_32, i_33, i_34, i_35, i_36, i_37, i_38, i_39, i_40, i_41, i_42, i_43, i_44, i_45, 0, 0, 0, 0, 0, 0]))), (a_9, .inl (cy 1, 15, .inl g17))]) hS
                  have rg17 : mm_ar g17 0 7 := by rw [eg17]; exact mm_ar_upd (mm_ar_wk h35 (by decide)) (mm_wk mm_k0 (by decide)) _
                  refine lv_iinc (v := 1) (lv' := [(1, .int 1), (0, .ref a_0)]) hx hb dX12_clears_44 hl (k := 0) rfl (by decide) (by decide) rfl ?_
                  clear hl
                  clear ls
                  intro ls hl
                  refine lv_goto (tgt := 29) hx hb dX12_clears_47 (by decide) ?_
                  refine lv_iload_n hx hb dX12_clears_29 rfl (lv_at hl 0 rfl) ?_
                  refine lv_iconst (v := 3) hx hb dX12_clears_30 (by decide) ?_
                  refine lv_icmp_ge (tgt := 50) hx hb dX12_clears_31 (by decide) (fun c18 => ?_) (fun c18 => ?_)
                  · have q19 := mm_leL (mm_le c18) mm_k3 mm_k1
                    exact mm_no q19 (by decide)
                  · refine lv_aload_n hx hb dX12_clears_34 rfl (lv_at hl 1 rfl) ?_
                    refine va_get (D := G) (ci := 12) (v := .ref a_9) (C := RX12) (T := TX12) (N := 38) hx hb hts (mm_i inlX12) hown hK.1 hP 0 rfl rfl 19 (by decide) (mm_h hts mm_w151) (fun _ h9 => h9) rfl dX12_clears_35 ?_
                    refine lv_bipush (v := 12) hx hb dX12_clears_38 (by decide) ?_
                    refine lv_iload_n hx hb dX12_clears_40 rfl (lv_at hl 0 rfl) ?_
                    refine lv_iadd hx hb dX12_clears_41 ?_
                    refine lv_topi (fun v20 ev20 => ?_)
                    obtain rfl : v20 = 13 := ev20.trans (by decide)
                    refine lv_iconst (v := 0) hx hb dX12_clears_42 (by decide) ?_
                    refine va_iast hx hb hK.1 hP hD hS 3 1 rfl rfl (mm_in mm_k13 (by decide)) dX12_clears_43 ?_
                    clear hP hD hS
                    clear H locs
                    obtain ⟨g21, eg21⟩ : ∃ z : Nat → Int32, z = upd g17 (13 : Int32).toNatClampNeg 0 := ⟨_, rfl⟩
                    rw [← eg21]
                    intro H locs (hP : va_P G vwCl [(a_0, .inr (12, [.int i_0, .ref a_1, .ref a_2, .ref a_3, .ref a_4, .ref a_5, .int i_1, .int i_2, .int i_3, .int i_4, .int i_5, .long j_0, .int i_6, .int i_7, .int i_8, .int i_9, .ref a_6, .ref a_7, .ref a_8, .ref a_9, .ref a_10, .ref a_11, .ref a_12, .ref a_13, .ref a_14, .ref a_15, .ref a_16, .ref a_17, .ref a_18, .int i_10, .int i_11, .int i_12, .int i_13, .int i_14, .int i_15, .ref a_19, .int i_16, .ref a_20])), (a_6, .inl (cy 1, 5, .inl (mm_g [i_17, i_18, i_19, i_20, 0]))), (a_7, .inl (cy 1, 30, .inl (mm_g [i_22, i_23, i_24, i_25, i_26, i_27, i_28, i_29, i_30, i_31, i_32, i_33, i_34, i_35, i_36, i_37, i_38, i_39, i_40, i_41, i_42, i_43, i_44, i_45, 0, 0, 0, 0, 0, 0]))), (a_9, .inl (cy 1, 15, .inl g21))] H) (hD : va_D A [(a_0, .inr (12, [.int i_0, .ref a_1, .ref a_2, .ref a_3, .ref a_4, .ref a_5, .int i_1, .int i_2, .int i_3, .int i_4, .int i_5, .long j_0, .int i_6, .int i_7, .int i_8, .int i_9, .ref a_6, .ref a_7, .ref a_8, .ref a_9, .ref a_10, .ref a_11, .ref a_12, .ref a_13, .ref a_14, .ref a_15, .ref a_16, .ref a_17, .ref a_18, .int i_10, .int i_11, .int i_12, .int i_13, .int i_14, .int i_15, .ref a_19, .int i_16, .ref a_20])), (a_6, .inl (cy 1, 5, .inl (mm_g [i_17, i_18, i_19, i_20, 0]))), (a_7, .inl (cy 1, 30, .inl (mm_g [i_22, i_23, i_24, i_25, i_26, i_27, i_28, i_29, i_30, i_31, i_32, i_33, i_34, i_35, i_36, i_37, i_38, i_39, i_40, i_41, i_42, i_43, i_44, i_45, 0, 0, 0, 0, 0, 0]))), (a_9, .inl (cy 1, 15, .inl g21))]) hS
                    have rg21 : mm_ar g21 0 7 := by rw [eg21]; exact mm_ar_upd (mm_ar_wk rg17 (by decide)) (mm_wk mm_k0 (by decide)) _
                    refine lv_iinc (v := 2) (lv' := [(1, .int 2), (0, .ref a_0)]) hx hb dX12_clears_44 hl (k := 0) rfl (by decide) (by decide) rfl ?_
                    clear hl
                    clear ls
                    intro ls hl
                    refine lv_goto (tgt := 29) hx hb dX12_clears_47 (by decide) ?_
                    refine lv_iload_n hx hb dX12_clears_29 rfl (lv_at hl 0 rfl) ?_
                    refine lv_iconst (v := 3) hx hb dX12_clears_30 (by decide) ?_
                    refine lv_icmp_ge (tgt := 50) hx hb dX12_clears_31 (by decide) (fun c22 => ?_) (fun c22 => ?_)
                    · have q23 := mm_leL (mm_le c22) mm_k3 mm_k2
                      exact mm_no q23 (by decide)
                    · refine lv_aload_n hx hb dX12_clears_34 rfl (lv_at hl 1 rfl) ?_
                      refine va_get (D := G) (ci := 12) (v := .ref a_9) (C := RX12) (T := TX12) (N := 38) hx hb hts (mm_i inlX12) hown hK.1 hP 0 rfl rfl 19 (by decide) (mm_h hts mm_w151) (fun _ h9 => h9) rfl dX12_clears_35 ?_
                      refine lv_bipush (v := 12) hx hb dX12_clears_38 (by decide) ?_
                      refine lv_iload_n hx hb dX12_clears_40 rfl (lv_at hl 0 rfl) ?_
                      refine lv_iadd hx hb dX12_clears_41 ?_
                      refine lv_topi (fun v24 ev24 => ?_)
                      obtain rfl : v24 = 14 := ev24.trans (by decide)
                      refine lv_iconst (v := 0) hx hb dX12_clears_42 (by decide) ?_
                      refine va_iast hx hb hK.1 hP hD hS 3 1 rfl rfl (mm_in mm_k14 (by decide)) dX12_clears_43 ?_
                      clear hP hD hS
                      clear H locs
                      obtain ⟨g25, eg25⟩ : ∃ z : Nat → Int32, z = upd g21 (14 : Int32).toNatClampNeg 0 := ⟨_, rfl⟩
                      rw [← eg25]
                      intro H locs (hP : va_P G vwCl [(a_0, .inr (12, [.int i_0, .ref a_1, .ref a_2, .ref a_3, .ref a_4, .ref a_5, .int i_1, .int i_2, .int i_3, .int i_4, .int i_5, .long j_0, .int i_6, .int i_7, .int i_8, .int i_9, .ref a_6, .ref a_7, .ref a_8, .ref a_9, .ref a_10, .ref a_11, .ref a_12, .ref a_13, .ref a_14, .ref a_15, .ref a_16, .ref a_17, .ref a_18, .int i_10, .int i_11, .int i_12, .int i_13, .int i_14, .int i_15, .ref a_19, .int i_16, .ref a_20])), (a_6, .inl (cy 1, 5, .inl (mm_g [i_17, i_18, i_19, i_20, 0]))), (a_7, .inl (cy 1, 30, .inl (mm_g [i_22, i_23, i_24, i_25, i_26, i_27, i_28, i_29, i_30, i_31, i_32, i_33, i_34, i_35, i_36, i_37, i_38, i_39, i_40, i_41, i_42, i_43, i_44, i_45, 0, 0, 0, 0, 0, 0]))), (a_9, .inl (cy 1, 15, .inl g25))] H) (hD : va_D A [(a_0, .inr (12, [.int i_0, .ref a_1, .ref a_2, .ref a_3, .ref a_4, .ref a_5, .int i_1, .int i_2, .int i_3, .int i_4, .int i_5, .long j_0, .int i_6, .int i_7, .int i_8, .int i_9, .ref a_6, .ref a_7, .ref a_8, .ref a_9, .ref a_10, .ref a_11, .ref a_12, .ref a_13, .ref a_14, .ref a_15, .ref a_16, .ref a_17, .ref a_18, .int i_10, .int i_11, .int i_12, .int i_13, .int i_14, .int i_15, .ref a_19, .int i_16, .ref a_20])), (a_6, .inl (cy 1, 5, .inl (mm_g [i_17, i_18, i_19, i_20, 0]))), (a_7, .inl (cy 1, 30, .inl (mm_g [i_22, i_23, i_24, i_25, i_26, i_27, i_28, i_29, i_30, i_31, i_32, i_33, i_34, i_35, i_36, i_37, i_38, i_39, i_40, i_41, i_42, i_43, i_44, i_45, 0, 0, 0, 0, 0, 0]))), (a_9, .inl (cy 1, 15, .inl g25))]) hS
                      have rg25 : mm_ar g25 0 7 := by rw [eg25]; exact mm_ar_upd (mm_ar_wk rg21 (by decide)) (mm_wk mm_k0 (by decide)) _
                      refine lv_iinc (v := 3) (lv' := [(1, .int 3), (0, .ref a_0)]) hx hb dX12_clears_44 hl (k := 0) rfl (by decide) (by decide) rfl ?_
                      clear hl
                      clear ls
                      intro ls hl
                      refine lv_goto (tgt := 29) hx hb dX12_clears_47 (by decide) ?_
                      refine lv_iload_n hx hb dX12_clears_29 rfl (lv_at hl 0 rfl) ?_
                      refine lv_iconst (v := 3) hx hb dX12_clears_30 (by decide) ?_
                      refine lv_icmp_ge (tgt := 50) hx hb dX12_clears_31 (by decide) (fun c26 => ?_) (fun c26 => ?_)
                      · have w27 : mm_tl 0 0 0 := (mm_tl_0 mm_k0 mm_k0 (by decide) (by decide))
                        have w28 : mm_fr f_0 g25 12 := (mm_fr_u (mm_fr_u (mm_fr_u (mm_fr_r _ _) eg17 mm_k12 (by decide)) eg21 mm_k13 (by decide)) eg25 mm_k14 (by decide))
                        subst hAe
                        rw [hQ]
                        exact W.vret hx hb hr (fun t ht hW => ⟨⟨g25, rfl, ⟨rg25, w27, w28⟩, by rw [ht]; exact hP, hK.warm hW, hD⟩, hS.F ht⟩) hS.2.2 dX12_clears_50
                      · have q29 := mm_ltL (h := 2) (mm_nle c26) mm_k3 mm_k3 (by decide)
                        exact mm_no q29 (by decide)
              · have q30 := mm_ltL (h := 5) (mm_nle c13) mm_k6 mm_k6 (by decide)
                exact mm_no q30 (by decide)

set_option maxHeartbeats 4000000 in
set_option maxRecDepth 100000 in
theorem M16_X12_isByte (l : Launch) (G : va_G) (cy : Nat → ClassId) (sz : Nat) (a_0 : Nat) (i_0 : Int32) (i_1 : Int32) (a_1 : Nat) (a_2 : Nat) (a_3 : Nat) (a_4 : Nat) (a_5 : Nat) (i_2 : Int32) (i_3 : Int32) (i_4 : Int32) (i_5 : Int32) (i_6 : Int32) (j_0 : Int64) (i_7 : Int32) (i_8 : Int32) (i_9 : Int32) (i_10 : Int32) (a_6 : Nat) (a_7 : Nat) (a_8 : Nat) (a_9 : Nat) (a_10 : Nat) (a_11 : Nat) (a_12 : Nat) (a_13 : Nat) (a_14 : Nat) (a_15 : Nat) (a_16 : Nat) (a_17 : Nat) (a_18 : Nat) (i_11 : Int32) (i_12 : Int32) (i_13 : Int32) (i_14 : Int32) (i_15 : Int32) (i_16 : Int32) (a_19 : Nat) (i_17 : Int32) (a_20 : Nat) (f_0 : Nat → Int32) (h0 : mm_rg i_0 0 600) (h1 : mm_rg i_2 0 600) (h2 : mm_ar f_0 (-128) 127)  : mm_CI l yX12_isByte (mm_ws yX12_isByte cX12_isByte 4 (some .boolean)) ({ frames := 0, cells := 0, slots := 0, locals := 0 } : Room) G cy sz [(a_0, .inr (12, [.int i_1, .ref a_1, .ref a_2, .ref a_3, .ref a_4, .ref a_5, .int i_2, .int i_3, .int i_4, .int i_5, .int i_6, .long j_0, .int i_7, .int i_8, .int i_9, .int i_10, .ref a_6, .ref a_7, .ref a_8, .ref a_9, .ref a_10, .ref a_11, .ref a_12, .ref a_13, .ref a_14, .ref a_15, .ref a_16, .ref a_17, .ref a_18, .int i_11, .int i_12, .int i_13, .int i_14, .int i_15, .int i_16, .ref a_19, .int i_17, .ref a_20])), (a_5, .inl (cy 0, 600, .inl f_0))] [.ref a_0, .int i_0, .int 32, .int 32] (fun u : Unit => [(a_0, .inr (12, [.int i_1, .ref a_1, .ref a_2, .ref a_3, .ref a_4, .ref a_5, .int i_2, .int i_3, .int i_4, .int i_5, .int i_6, .long j_0, .int i_7, .int i_8, .int i_9, .int i_10, .ref a_6, .ref a_7, .ref a_8, .ref a_9, .ref a_10, .ref a_11, .ref a_12, .ref a_13, .ref a_14, .ref a_15, .ref a_16, .ref a_17, .ref a_18, .int i_11, .int i_12, .int i_13, .int i_14, .int i_15, .int i_16, .ref a_19, .int i_17, .ref a_20])), (a_5, .inl (cy 0, 600, .inl f_0))]) (fun (r : Int32) (u : Unit) => ((0 = r) ∨ (1 = r ∧ mm_rg i_0 0 599 ∧ (i_0 : Int32).toInt < (i_2 : Int32).toInt))) 0 0 := by
  refine mm_begin (lv := [(0, .ref a_0), (1, .int i_0), (2, .int 32), (3, .int 32)]) (by decide) (Nat.le_of_ble_eq_true rfl) rfl ?_
  intro p e s m below meth c A ls R args Q H locs hRe hQ hAe hx hb hr hlocks hml hown hnm hts hsz hA hS hP hK hD hZ hl
  have hRf : R.frames = 0 := by rw [hRe]
  have hRl : R.locals = 0 := by rw [hRe]
  have hRc : R.cells = 0 := by rw [hRe]
  have hRs : R.slots = 0 := by rw [hRe]
  refine lv_iload_n hx hb dX12_isByte_0 rfl (lv_at hl 1 rfl) ?_
  refine lv_aload_n hx hb dX12_isByte_1 rfl (lv_at hl 0 rfl) ?_
  refine va_get (D := G) (ci := 12) (v := .int i_2) (C := RX12) (T := TX12) (N := 38) hx hb hts (mm_i inlX12) hown hK.1 hP 0 rfl rfl 6 (by decide) (mm_h hts mm_w178) (fun _ h9 => h9) rfl dX12_isByte_2 ?_
  refine lv_icmp_ge (tgt := 32) hx hb dX12_isByte_5 (by decide) (fun c1 => ?_) (fun c1 => ?_)
  · refine lv_iconst (v := 0) hx hb dX12_isByte_32 (by decide) ?_
    subst hAe
    rw [hQ]
    exact W.zret (v := 0) hx hb hr rfl (fun t ht hW => ⟨⟨0, (), rfl, (Or.inl rfl), by rw [ht]; exact hP, hK.warm hW, hD⟩, hS.F ht⟩) hS.2.2 dX12_isByte_33
  · have q2 := mm_ltL (h := 599) (mm_nle c1) h0 h1 (by decide)
    have q3 := mm_ltR (lo := 1) (mm_nle c1) h0 h1 (by decide)
    refine lv_aload_n hx hb dX12_isByte_8 rfl (lv_at hl 0 rfl) ?_
    refine va_get (D := G) (ci := 12) (v := .ref a_5) (C := RX12) (T := TX12) (N := 38) hx hb hts (mm_i inlX12) hown hK.1 hP 0 rfl rfl 5 (by decide) (mm_h hts mm_w146) (fun _ h9 => h9) rfl dX12_isByte_9 ?_
    refine lv_iload_n hx hb dX12_isByte_12 rfl (lv_at hl 1 rfl) ?_
    refine va_bald hx hb hK.1 hP 1 0 rfl rfl (mm_in q2 (by decide)) dX12_isByte_13 ?_
    refine lv_topi (fun v4 ev4 => ?_)
    have rv4 : mm_rg v4 (-128) 127 := mm_eqv ev4 (h2 _)
    refine lv_iload_n hx hb dX12_isByte_14 rfl (lv_at hl 2 rfl) ?_
    refine lv_icmp_lt (tgt := 32) hx hb dX12_isByte_15 (by decide) (fun c5 => ?_) (fun c5 => ?_)
    · have q6 := mm_ltL (h := 31) (mm_lt c5) rv4 mm_k32 (by decide)
      refine lv_iconst (v := 0) hx hb dX12_isByte_32 (by decide) ?_
      subst hAe
      rw [hQ]
      exact W.zret (v := 0) hx hb hr rfl (fun t ht hW => ⟨⟨0, (), rfl, (Or.inl rfl), by rw [ht]; exact hP, hK.warm hW, hD⟩, hS.F ht⟩) hS.2.2 dX12_isByte_33
    · have q7 := mm_leR (mm_nlt c5) mm_k32 rv4
      refine lv_aload_n hx hb dX12_isByte_18 rfl (lv_at hl 0 rfl) ?_
      refine va_get (D := G) (ci := 12) (v := .ref a_5) (C := RX12) (T := TX12) (N := 38) hx hb hts (mm_i inlX12) hown hK.1 hP 0 rfl rfl 5 (by decide) (mm_h hts mm_w146) (fun _ h9 => h9) rfl dX12_isByte_19 ?_
      refine lv_iload_n hx hb dX12_isByte_22 rfl (lv_at hl 1 rfl) ?_
      refine va_bald hx hb hK.1 hP 1 0 rfl rfl (mm_in q2 (by decide)) dX12_isByte_23 ?_
      refine lv_topi (fun v8 ev8 => ?_)
      have rv8 : mm_rg v8 (-128) 127 := mm_eqv ev8 (h2 _)
      obtain rfl : v4 = v8 := ev4.trans ev8.symm
      refine lv_iload_n hx hb dX12_isByte_24 rfl (lv_at hl 3 rfl) ?_
      refine lv_icmp_gt (tgt := 32) hx hb dX12_isByte_25 (by decide) (fun c9 => ?_) (fun c9 => ?_)
      · have q10 := mm_ltR (lo := 33) (mm_lt c9) mm_k32 q7 (by decide)
        refine lv_iconst (v := 0) hx hb dX12_isByte_32 (by decide) ?_
        subst hAe
        rw [hQ]
        exact W.zret (v := 0) hx hb hr rfl (fun t ht hW => ⟨⟨0, (), rfl, (Or.inl rfl), by rw [ht]; exact hP, hK.warm hW, hD⟩, hS.F ht⟩) hS.2.2 dX12_isByte_33
      · have q11 := mm_leL (mm_nlt c9) q7 mm_k32
        refine lv_iconst (v := 1) hx hb dX12_isByte_28 (by decide) ?_
        refine lv_goto (tgt := 33) hx hb dX12_isByte_29 (by decide) ?_
        have w12 : (i_0 : Int32).toInt < (i_2 : Int32).toInt := (mm_nle c1)
        subst hAe
        rw [hQ]
        exact W.zret (v := 1) hx hb hr rfl (fun t ht hW => ⟨⟨1, (), rfl, (Or.inr ⟨rfl, q2, w12⟩), by rw [ht]; exact hP, hK.warm hW, hD⟩, hS.F ht⟩) hS.2.2 dX12_isByte_33

set_option maxHeartbeats 4000000 in
set_option maxRecDepth 100000 in
theorem M17_X12_isByte (l : Launch) (G : va_G) (cy : Nat → ClassId) (sz : Nat) (a_0 : Nat) (i_0 : Int32) (i_1 : Int32) (a_1 : Nat) (a_2 : Nat) (a_3 : Nat) (a_4 : Nat) (a_5 : Nat) (i_2 : Int32) (i_3 : Int32) (i_4 : Int32) (i_5 : Int32) (i_6 : Int32) (j_0 : Int64) (i_7 : Int32) (i_8 : Int32) (i_9 : Int32) (i_10 : Int32) (a_6 : Nat) (a_7 : Nat) (a_8 : Nat) (a_9 : Nat) (a_10 : Nat) (a_11 : Nat) (a_12 : Nat) (a_13 : Nat) (a_14 : Nat) (a_15 : Nat) (a_16 : Nat) (a_17 : Nat) (a_18 : Nat) (i_11 : Int32) (i_12 : Int32) (i_13 : Int32) (i_14 : Int32) (i_15 : Int32) (i_16 : Int32) (a_19 : Nat) (i_17 : Int32) (a_20 : Nat) (f_0 : Nat → Int32) (h0 : mm_rg i_0 0 600) (h1 : mm_rg i_2 0 600) (h2 : mm_ar f_0 (-128) 127)  : mm_CI l yX12_isByte (mm_ws yX12_isByte cX12_isByte 4 (some .boolean)) ({ frames := 0, cells := 0, slots := 0, locals := 0 } : Room) G cy sz [(a_0, .inr (12, [.int i_1, .ref a_1, .ref a_2, .ref a_3, .ref a_4, .ref a_5, .int i_2, .int i_3, .int i_4, .int i_5, .int i_6, .long j_0, .int i_7, .int i_8, .int i_9, .int i_10, .ref a_6, .ref a_7, .ref a_8, .ref a_9, .ref a_10, .ref a_11, .ref a_12, .ref a_13, .ref a_14, .ref a_15, .ref a_16, .ref a_17, .ref a_18, .int i_11, .int i_12, .int i_13, .int i_14, .int i_15, .int i_16, .ref a_19, .int i_17, .ref a_20])), (a_5, .inl (cy 0, 600, .inl f_0))] [.ref a_0, .int i_0, .int 10, .int 10] (fun u : Unit => [(a_0, .inr (12, [.int i_1, .ref a_1, .ref a_2, .ref a_3, .ref a_4, .ref a_5, .int i_2, .int i_3, .int i_4, .int i_5, .int i_6, .long j_0, .int i_7, .int i_8, .int i_9, .int i_10, .ref a_6, .ref a_7, .ref a_8, .ref a_9, .ref a_10, .ref a_11, .ref a_12, .ref a_13, .ref a_14, .ref a_15, .ref a_16, .ref a_17, .ref a_18, .int i_11, .int i_12, .int i_13, .int i_14, .int i_15, .int i_16, .ref a_19, .int i_17, .ref a_20])), (a_5, .inl (cy 0, 600, .inl f_0))]) (fun (r : Int32) (u : Unit) => ((0 = r) ∨ (1 = r ∧ mm_rg i_0 0 599 ∧ (i_0 : Int32).toInt < (i_2 : Int32).toInt))) 0 0 := by
  refine mm_begin (lv := [(0, .ref a_0), (1, .int i_0), (2, .int 10), (3, .int 10)]) (by decide) (Nat.le_of_ble_eq_true rfl) rfl ?_
  intro p e s m below meth c A ls R args Q H locs hRe hQ hAe hx hb hr hlocks hml hown hnm hts hsz hA hS hP hK hD hZ hl
  have hRf : R.frames = 0 := by rw [hRe]
  have hRl : R.locals = 0 := by rw [hRe]
  have hRc : R.cells = 0 := by rw [hRe]
  have hRs : R.slots = 0 := by rw [hRe]
  refine lv_iload_n hx hb dX12_isByte_0 rfl (lv_at hl 1 rfl) ?_
  refine lv_aload_n hx hb dX12_isByte_1 rfl (lv_at hl 0 rfl) ?_
  refine va_get (D := G) (ci := 12) (v := .int i_2) (C := RX12) (T := TX12) (N := 38) hx hb hts (mm_i inlX12) hown hK.1 hP 0 rfl rfl 6 (by decide) (mm_h hts mm_w178) (fun _ h9 => h9) rfl dX12_isByte_2 ?_
  refine lv_icmp_ge (tgt := 32) hx hb dX12_isByte_5 (by decide) (fun c1 => ?_) (fun c1 => ?_)
  · refine lv_iconst (v := 0) hx hb dX12_isByte_32 (by decide) ?_
    subst hAe
    rw [hQ]
    exact W.zret (v := 0) hx hb hr rfl (fun t ht hW => ⟨⟨0, (), rfl, (Or.inl rfl), by rw [ht]; exact hP, hK.warm hW, hD⟩, hS.F ht⟩) hS.2.2 dX12_isByte_33
  · have q2 := mm_ltL (h := 599) (mm_nle c1) h0 h1 (by decide)
    have q3 := mm_ltR (lo := 1) (mm_nle c1) h0 h1 (by decide)
    refine lv_aload_n hx hb dX12_isByte_8 rfl (lv_at hl 0 rfl) ?_
    refine va_get (D := G) (ci := 12) (v := .ref a_5) (C := RX12) (T := TX12) (N := 38) hx hb hts (mm_i inlX12) hown hK.1 hP 0 rfl rfl 5 (by decide) (mm_h hts mm_w146) (fun _ h9 => h9) rfl dX12_isByte_9 ?_
    refine lv_iload_n hx hb dX12_isByte_12 rfl (lv_at hl 1 rfl) ?_
    refine va_bald hx hb hK.1 hP 1 0 rfl rfl (mm_in q2 (by decide)) dX12_isByte_13 ?_
    refine lv_topi (fun v4 ev4 => ?_)
    have rv4 : mm_rg v4 (-128) 127 := mm_eqv ev4 (h2 _)
    refine lv_iload_n hx hb dX12_isByte_14 rfl (lv_at hl 2 rfl) ?_
    refine lv_icmp_lt (tgt := 32) hx hb dX12_isByte_15 (by decide) (fun c5 => ?_) (fun c5 => ?_)
    · have q6 := mm_ltL (h := 9) (mm_lt c5) rv4 mm_k10 (by decide)
      refine lv_iconst (v := 0) hx hb dX12_isByte_32 (by decide) ?_
      subst hAe
      rw [hQ]
      exact W.zret (v := 0) hx hb hr rfl (fun t ht hW => ⟨⟨0, (), rfl, (Or.inl rfl), by rw [ht]; exact hP, hK.warm hW, hD⟩, hS.F ht⟩) hS.2.2 dX12_isByte_33
    · have q7 := mm_leR (mm_nlt c5) mm_k10 rv4
      refine lv_aload_n hx hb dX12_isByte_18 rfl (lv_at hl 0 rfl) ?_
      refine va_get (D := G) (ci := 12) (v := .ref a_5) (C := RX12) (T := TX12) (N := 38) hx hb hts (mm_i inlX12) hown hK.1 hP 0 rfl rfl 5 (by decide) (mm_h hts mm_w146) (fun _ h9 => h9) rfl dX12_isByte_19 ?_
      refine lv_iload_n hx hb dX12_isByte_22 rfl (lv_at hl 1 rfl) ?_
      refine va_bald hx hb hK.1 hP 1 0 rfl rfl (mm_in q2 (by decide)) dX12_isByte_23 ?_
      refine lv_topi (fun v8 ev8 => ?_)
      have rv8 : mm_rg v8 (-128) 127 := mm_eqv ev8 (h2 _)
      obtain rfl : v4 = v8 := ev4.trans ev8.symm
      refine lv_iload_n hx hb dX12_isByte_24 rfl (lv_at hl 3 rfl) ?_
      refine lv_icmp_gt (tgt := 32) hx hb dX12_isByte_25 (by decide) (fun c9 => ?_) (fun c9 => ?_)
      · have q10 := mm_ltR (lo := 11) (mm_lt c9) mm_k10 q7 (by decide)
        refine lv_iconst (v := 0) hx hb dX12_isByte_32 (by decide) ?_
        subst hAe
        rw [hQ]
        exact W.zret (v := 0) hx hb hr rfl (fun t ht hW => ⟨⟨0, (), rfl, (Or.inl rfl), by rw [ht]; exact hP, hK.warm hW, hD⟩, hS.F ht⟩) hS.2.2 dX12_isByte_33
      · have q11 := mm_leL (mm_nlt c9) q7 mm_k10
        refine lv_iconst (v := 1) hx hb dX12_isByte_28 (by decide) ?_
        refine lv_goto (tgt := 33) hx hb dX12_isByte_29 (by decide) ?_
        have w12 : (i_0 : Int32).toInt < (i_2 : Int32).toInt := (mm_nle c1)
        subst hAe
        rw [hQ]
        exact W.zret (v := 1) hx hb hr rfl (fun t ht hW => ⟨⟨1, (), rfl, (Or.inr ⟨rfl, q2, w12⟩), by rw [ht]; exact hP, hK.warm hW, hD⟩, hS.F ht⟩) hS.2.2 dX12_isByte_33

set_option maxHeartbeats 4000000 in
set_option maxRecDepth 100000 in
theorem M18_X12_isByte (l : Launch) (G : va_G) (cy : Nat → ClassId) (sz : Nat) (a_0 : Nat) (i_0 : Int32) (i_1 : Int32) (a_1 : Nat) (a_2 : Nat) (a_3 : Nat) (a_4 : Nat) (a_5 : Nat) (i_2 : Int32) (i_3 : Int32) (i_4 : Int32) (i_5 : Int32) (i_6 : Int32) (j_0 : Int64) (i_7 : Int32) (i_8 : Int32) (i_9 : Int32) (i_10 : Int32) (a_6 : Nat) (a_7 : Nat) (a_8 : Nat) (a_9 : Nat) (a_10 : Nat) (a_11 : Nat) (a_12 : Nat) (a_13 : Nat) (a_14 : Nat) (a_15 : Nat) (a_16 : Nat) (a_17 : Nat) (a_18 : Nat) (i_11 : Int32) (i_12 : Int32) (i_13 : Int32) (i_14 : Int32) (i_15 : Int32) (i_16 : Int32) (a_19 : Nat) (i_17 : Int32) (a_20 : Nat) (f_0 : Nat → Int32) (h0 : mm_rg i_0 0 599) (h1 : mm_rg i_2 0 600) (h2 : mm_ar f_0 (-128) 127)  : mm_CI l yX12_isByte (mm_ws yX12_isByte cX12_isByte 4 (some .boolean)) ({ frames := 0, cells := 0, slots := 0, locals := 0 } : Room) G cy sz [(a_0, .inr (12, [.int i_1, .ref a_1, .ref a_2, .ref a_3, .ref a_4, .ref a_5, .int i_2, .int i_3, .int i_4, .int i_5, .int i_6, .long j_0, .int i_7, .int i_8, .int i_9, .int i_10, .ref a_6, .ref a_7, .ref a_8, .ref a_9, .ref a_10, .ref a_11, .ref a_12, .ref a_13, .ref a_14, .ref a_15, .ref a_16, .ref a_17, .ref a_18, .int i_11, .int i_12, .int i_13, .int i_14, .int i_15, .int i_16, .ref a_19, .int i_17, .ref a_20])), (a_5, .inl (cy 0, 600, .inl f_0))] [.ref a_0, .int i_0, .int 97, .int 122] (fun u : Unit => [(a_0, .inr (12, [.int i_1, .ref a_1, .ref a_2, .ref a_3, .ref a_4, .ref a_5, .int i_2, .int i_3, .int i_4, .int i_5, .int i_6, .long j_0, .int i_7, .int i_8, .int i_9, .int i_10, .ref a_6, .ref a_7, .ref a_8, .ref a_9, .ref a_10, .ref a_11, .ref a_12, .ref a_13, .ref a_14, .ref a_15, .ref a_16, .ref a_17, .ref a_18, .int i_11, .int i_12, .int i_13, .int i_14, .int i_15, .int i_16, .ref a_19, .int i_17, .ref a_20])), (a_5, .inl (cy 0, 600, .inl f_0))]) (fun (r : Int32) (u : Unit) => ((0 = r) ∨ (1 = r ∧ (i_0 : Int32).toInt < (i_2 : Int32).toInt))) 0 0 := by
  refine mm_begin (lv := [(0, .ref a_0), (1, .int i_0), (2, .int 97), (3, .int 122)]) (by decide) (Nat.le_of_ble_eq_true rfl) rfl ?_
  intro p e s m below meth c A ls R args Q H locs hRe hQ hAe hx hb hr hlocks hml hown hnm hts hsz hA hS hP hK hD hZ hl
  have hRf : R.frames = 0 := by rw [hRe]
  have hRl : R.locals = 0 := by rw [hRe]
  have hRc : R.cells = 0 := by rw [hRe]
  have hRs : R.slots = 0 := by rw [hRe]
  refine lv_iload_n hx hb dX12_isByte_0 rfl (lv_at hl 1 rfl) ?_
  refine lv_aload_n hx hb dX12_isByte_1 rfl (lv_at hl 0 rfl) ?_
  refine va_get (D := G) (ci := 12) (v := .int i_2) (C := RX12) (T := TX12) (N := 38) hx hb hts (mm_i inlX12) hown hK.1 hP 0 rfl rfl 6 (by decide) (mm_h hts mm_w178) (fun _ h9 => h9) rfl dX12_isByte_2 ?_
  refine lv_icmp_ge (tgt := 32) hx hb dX12_isByte_5 (by decide) (fun c1 => ?_) (fun c1 => ?_)
  · have q2 := mm_leL (mm_le c1) h1 h0
    refine lv_iconst (v := 0) hx hb dX12_isByte_32 (by decide) ?_
    subst hAe
    rw [hQ]
    exact W.zret (v := 0) hx hb hr rfl (fun t ht hW => ⟨⟨0, (), rfl, (Or.inl rfl), by rw [ht]; exact hP, hK.warm hW, hD⟩, hS.F ht⟩) hS.2.2 dX12_isByte_33
  · have q3 := mm_ltR (lo := 1) (mm_nle c1) h0 h1 (by decide)
    refine lv_aload_n hx hb dX12_isByte_8 rfl (lv_at hl 0 rfl) ?_
    refine va_get (D := G) (ci := 12) (v := .ref a_5) (C := RX12) (T := TX12) (N := 38) hx hb hts (mm_i inlX12) hown hK.1 hP 0 rfl rfl 5 (by decide) (mm_h hts mm_w146) (fun _ h9 => h9) rfl dX12_isByte_9 ?_
    refine lv_iload_n hx hb dX12_isByte_12 rfl (lv_at hl 1 rfl) ?_
    refine va_bald hx hb hK.1 hP 1 0 rfl rfl (mm_in h0 (by decide)) dX12_isByte_13 ?_
    refine lv_topi (fun v4 ev4 => ?_)
    have rv4 : mm_rg v4 (-128) 127 := mm_eqv ev4 (h2 _)
    refine lv_iload_n hx hb dX12_isByte_14 rfl (lv_at hl 2 rfl) ?_
    refine lv_icmp_lt (tgt := 32) hx hb dX12_isByte_15 (by decide) (fun c5 => ?_) (fun c5 => ?_)
    · have q6 := mm_ltL (h := 96) (mm_lt c5) rv4 mm_k97 (by decide)
      refine lv_iconst (v := 0) hx hb dX12_isByte_32 (by decide) ?_
      subst hAe
      rw [hQ]
      exact W.zret (v := 0) hx hb hr rfl (fun t ht hW => ⟨⟨0, (), rfl, (Or.inl rfl), by rw [ht]; exact hP, hK.warm hW, hD⟩, hS.F ht⟩) hS.2.2 dX12_isByte_33
    · have q7 := mm_leR (mm_nlt c5) mm_k97 rv4
      refine lv_aload_n hx hb dX12_isByte_18 rfl (lv_at hl 0 rfl) ?_
      refine va_get (D := G) (ci := 12) (v := .ref a_5) (C := RX12) (T := TX12) (N := 38) hx hb hts (mm_i inlX12) hown hK.1 hP 0 rfl rfl 5 (by decide) (mm_h hts mm_w146) (fun _ h9 => h9) rfl dX12_isByte_19 ?_
      refine lv_iload_n hx hb dX12_isByte_22 rfl (lv_at hl 1 rfl) ?_
      refine va_bald hx hb hK.1 hP 1 0 rfl rfl (mm_in h0 (by decide)) dX12_isByte_23 ?_
      refine lv_topi (fun v8 ev8 => ?_)
      have rv8 : mm_rg v8 (-128) 127 := mm_eqv ev8 (h2 _)
      obtain rfl : v4 = v8 := ev4.trans ev8.symm
      refine lv_iload_n hx hb dX12_isByte_24 rfl (lv_at hl 3 rfl) ?_
      refine lv_icmp_gt (tgt := 32) hx hb dX12_isByte_25 (by decide) (fun c9 => ?_) (fun c9 => ?_)
      · have q10 := mm_ltR (lo := 123) (mm_lt c9) mm_k122 q7 (by decide)
        refine lv_iconst (v := 0) hx hb dX12_isByte_32 (by decide) ?_
        subst hAe
        rw [hQ]
        exact W.zret (v := 0) hx hb hr rfl (fun t ht hW => ⟨⟨0, (), rfl, (Or.inl rfl), by rw [ht]; exact hP, hK.warm hW, hD⟩, hS.F ht⟩) hS.2.2 dX12_isByte_33
      · have q11 := mm_leL (mm_nlt c9) q7 mm_k122
        refine lv_iconst (v := 1) hx hb dX12_isByte_28 (by decide) ?_
        refine lv_goto (tgt := 33) hx hb dX12_isByte_29 (by decide) ?_
        have w12 : (i_0 : Int32).toInt < (i_2 : Int32).toInt := (mm_nle c1)
        subst hAe
        rw [hQ]
        exact W.zret (v := 1) hx hb hr rfl (fun t ht hW => ⟨⟨1, (), rfl, (Or.inr ⟨rfl, w12⟩), by rw [ht]; exact hP, hK.warm hW, hD⟩, hS.F ht⟩) hS.2.2 dX12_isByte_33

set_option maxHeartbeats 4000000 in
set_option maxRecDepth 100000 in
theorem M19_X12_isByte (l : Launch) (G : va_G) (cy : Nat → ClassId) (sz : Nat) (a_0 : Nat) (i_0 : Int32) (i_1 : Int32) (a_1 : Nat) (a_2 : Nat) (a_3 : Nat) (a_4 : Nat) (a_5 : Nat) (i_2 : Int32) (i_3 : Int32) (i_4 : Int32) (i_5 : Int32) (i_6 : Int32) (j_0 : Int64) (i_7 : Int32) (i_8 : Int32) (i_9 : Int32) (i_10 : Int32) (a_6 : Nat) (a_7 : Nat) (a_8 : Nat) (a_9 : Nat) (a_10 : Nat) (a_11 : Nat) (a_12 : Nat) (a_13 : Nat) (a_14 : Nat) (a_15 : Nat) (a_16 : Nat) (a_17 : Nat) (a_18 : Nat) (i_11 : Int32) (i_12 : Int32) (i_13 : Int32) (i_14 : Int32) (i_15 : Int32) (i_16 : Int32) (a_19 : Nat) (i_17 : Int32) (a_20 : Nat) (f_0 : Nat → Int32) (h0 : mm_rg i_0 0 599) (h1 : mm_rg i_2 0 600) (h2 : mm_ar f_0 (-128) 127)  : mm_CI l yX12_isByte (mm_ws yX12_isByte cX12_isByte 4 (some .boolean)) ({ frames := 0, cells := 0, slots := 0, locals := 0 } : Room) G cy sz [(a_0, .inr (12, [.int i_1, .ref a_1, .ref a_2, .ref a_3, .ref a_4, .ref a_5, .int i_2, .int i_3, .int i_4, .int i_5, .int i_6, .long j_0, .int i_7, .int i_8, .int i_9, .int i_10, .ref a_6, .ref a_7, .ref a_8, .ref a_9, .ref a_10, .ref a_11, .ref a_12, .ref a_13, .ref a_14, .ref a_15, .ref a_16, .ref a_17, .ref a_18, .int i_11, .int i_12, .int i_13, .int i_14, .int i_15, .int i_16, .ref a_19, .int i_17, .ref a_20])), (a_5, .inl (cy 0, 600, .inl f_0))] [.ref a_0, .int i_0, .int 48, .int 57] (fun u : Unit => [(a_0, .inr (12, [.int i_1, .ref a_1, .ref a_2, .ref a_3, .ref a_4, .ref a_5, .int i_2, .int i_3, .int i_4, .int i_5, .int i_6, .long j_0, .int i_7, .int i_8, .int i_9, .int i_10, .ref a_6, .ref a_7, .ref a_8, .ref a_9, .ref a_10, .ref a_11, .ref a_12, .ref a_13, .ref a_14, .ref a_15, .ref a_16, .ref a_17, .ref a_18, .int i_11, .int i_12, .int i_13, .int i_14, .int i_15, .int i_16, .ref a_19, .int i_17, .ref a_20])), (a_5, .inl (cy 0, 600, .inl f_0))]) (fun (r : Int32) (u : Unit) => ((0 = r) ∨ (1 = r ∧ (i_0 : Int32).toInt < (i_2 : Int32).toInt))) 0 0 := by
  refine mm_begin (lv := [(0, .ref a_0), (1, .int i_0), (2, .int 48), (3, .int 57)]) (by decide) (Nat.le_of_ble_eq_true rfl) rfl ?_
  intro p e s m below meth c A ls R args Q H locs hRe hQ hAe hx hb hr hlocks hml hown hnm hts hsz hA hS hP hK hD hZ hl
  have hRf : R.frames = 0 := by rw [hRe]
  have hRl : R.locals = 0 := by rw [hRe]
  have hRc : R.cells = 0 := by rw [hRe]
  have hRs : R.slots = 0 := by rw [hRe]
  refine lv_iload_n hx hb dX12_isByte_0 rfl (lv_at hl 1 rfl) ?_
  refine lv_aload_n hx hb dX12_isByte_1 rfl (lv_at hl 0 rfl) ?_
  refine va_get (D := G) (ci := 12) (v := .int i_2) (C := RX12) (T := TX12) (N := 38) hx hb hts (mm_i inlX12) hown hK.1 hP 0 rfl rfl 6 (by decide) (mm_h hts mm_w178) (fun _ h9 => h9) rfl dX12_isByte_2 ?_
  refine lv_icmp_ge (tgt := 32) hx hb dX12_isByte_5 (by decide) (fun c1 => ?_) (fun c1 => ?_)
  · have q2 := mm_leL (mm_le c1) h1 h0
    refine lv_iconst (v := 0) hx hb dX12_isByte_32 (by decide) ?_
    subst hAe
    rw [hQ]
    exact W.zret (v := 0) hx hb hr rfl (fun t ht hW => ⟨⟨0, (), rfl, (Or.inl rfl), by rw [ht]; exact hP, hK.warm hW, hD⟩, hS.F ht⟩) hS.2.2 dX12_isByte_33
  · have q3 := mm_ltR (lo := 1) (mm_nle c1) h0 h1 (by decide)
    refine lv_aload_n hx hb dX12_isByte_8 rfl (lv_at hl 0 rfl) ?_
    refine va_get (D := G) (ci := 12) (v := .ref a_5) (C := RX12) (T := TX12) (N := 38) hx hb hts (mm_i inlX12) hown hK.1 hP 0 rfl rfl 5 (by decide) (mm_h hts mm_w146) (fun _ h9 => h9) rfl dX12_isByte_9 ?_
    refine lv_iload_n hx hb dX12_isByte_12 rfl (lv_at hl 1 rfl) ?_
    refine va_bald hx hb hK.1 hP 1 0 rfl rfl (mm_in h0 (by decide)) dX12_isByte_13 ?_
    refine lv_topi (fun v4 ev4 => ?_)
    have rv4 : mm_rg v4 (-128) 127 := mm_eqv ev4 (h2 _)
    refine lv_iload_n hx hb dX12_isByte_14 rfl (lv_at hl 2 rfl) ?_
    refine lv_icmp_lt (tgt := 32) hx hb dX12_isByte_15 (by decide) (fun c5 => ?_) (fun c5 => ?_)
    · have q6 := mm_ltL (h := 47) (mm_lt c5) rv4 mm_k48 (by decide)
      refine lv_iconst (v := 0) hx hb dX12_isByte_32 (by decide) ?_
      subst hAe
      rw [hQ]
      exact W.zret (v := 0) hx hb hr rfl (fun t ht hW => ⟨⟨0, (), rfl, (Or.inl rfl), by rw [ht]; exact hP, hK.warm hW, hD⟩, hS.F ht⟩) hS.2.2 dX12_isByte_33
    · have q7 := mm_leR (mm_nlt c5) mm_k48 rv4
      refine lv_aload_n hx hb dX12_isByte_18 rfl (lv_at hl 0 rfl) ?_
      refine va_get (D := G) (ci := 12) (v := .ref a_5) (C := RX12) (T := TX12) (N := 38) hx hb hts (mm_i inlX12) hown hK.1 hP 0 rfl rfl 5 (by decide) (mm_h hts mm_w146) (fun _ h9 => h9) rfl dX12_isByte_19 ?_
      refine lv_iload_n hx hb dX12_isByte_22 rfl (lv_at hl 1 rfl) ?_
      refine va_bald hx hb hK.1 hP 1 0 rfl rfl (mm_in h0 (by decide)) dX12_isByte_23 ?_
      refine lv_topi (fun v8 ev8 => ?_)
      have rv8 : mm_rg v8 (-128) 127 := mm_eqv ev8 (h2 _)
      obtain rfl : v4 = v8 := ev4.trans ev8.symm
      refine lv_iload_n hx hb dX12_isByte_24 rfl (lv_at hl 3 rfl) ?_
      refine lv_icmp_gt (tgt := 32) hx hb dX12_isByte_25 (by decide) (fun c9 => ?_) (fun c9 => ?_)
      · have q10 := mm_ltR (lo := 58) (mm_lt c9) mm_k57 q7 (by decide)
        refine lv_iconst (v := 0) hx hb dX12_isByte_32 (by decide) ?_
        subst hAe
        rw [hQ]
        exact W.zret (v := 0) hx hb hr rfl (fun t ht hW => ⟨⟨0, (), rfl, (Or.inl rfl), by rw [ht]; exact hP, hK.warm hW, hD⟩, hS.F ht⟩) hS.2.2 dX12_isByte_33
      · have q11 := mm_leL (mm_nlt c9) q7 mm_k57
        refine lv_iconst (v := 1) hx hb dX12_isByte_28 (by decide) ?_
        refine lv_goto (tgt := 33) hx hb dX12_isByte_29 (by decide) ?_
        have w12 : (i_0 : Int32).toInt < (i_2 : Int32).toInt := (mm_nle c1)
        subst hAe
        rw [hQ]
        exact W.zret (v := 1) hx hb hr rfl (fun t ht hW => ⟨⟨1, (), rfl, (Or.inr ⟨rfl, w12⟩), by rw [ht]; exact hP, hK.warm hW, hD⟩, hS.F ht⟩) hS.2.2 dX12_isByte_33

set_option maxHeartbeats 4000000 in
set_option maxRecDepth 100000 in
theorem M20_X12_isByte (l : Launch) (G : va_G) (cy : Nat → ClassId) (sz : Nat) (a_0 : Nat) (i_0 : Int32) (i_1 : Int32) (a_1 : Nat) (a_2 : Nat) (a_3 : Nat) (a_4 : Nat) (a_5 : Nat) (i_2 : Int32) (i_3 : Int32) (i_4 : Int32) (i_5 : Int32) (i_6 : Int32) (j_0 : Int64) (i_7 : Int32) (i_8 : Int32) (i_9 : Int32) (i_10 : Int32) (a_6 : Nat) (a_7 : Nat) (a_8 : Nat) (a_9 : Nat) (a_10 : Nat) (a_11 : Nat) (a_12 : Nat) (a_13 : Nat) (a_14 : Nat) (a_15 : Nat) (a_16 : Nat) (a_17 : Nat) (a_18 : Nat) (i_11 : Int32) (i_12 : Int32) (i_13 : Int32) (i_14 : Int32) (i_15 : Int32) (i_16 : Int32) (a_19 : Nat) (i_17 : Int32) (a_20 : Nat) (f_0 : Nat → Int32) (h0 : mm_rg i_0 0 600) (h1 : mm_rg i_2 0 600) (h2 : mm_ar f_0 (-128) 127)  : mm_CI l yX12_isByte (mm_ws yX12_isByte cX12_isByte 4 (some .boolean)) ({ frames := 0, cells := 0, slots := 0, locals := 0 } : Room) G cy sz [(a_0, .inr (12, [.int i_1, .ref a_1, .ref a_2, .ref a_3, .ref a_4, .ref a_5, .int i_2, .int i_3, .int i_4, .int i_5, .int i_6, .long j_0, .int i_7, .int i_8, .int i_9, .int i_10, .ref a_6, .ref a_7, .ref a_8, .ref a_9, .ref a_10, .ref a_11, .ref a_12, .ref a_13, .ref a_14, .ref a_15, .ref a_16, .ref a_17, .ref a_18, .int i_11, .int i_12, .int i_13, .int i_14, .int i_15, .int i_16, .ref a_19, .int i_17, .ref a_20])), (a_5, .inl (cy 0, 600, .inl f_0))] [.ref a_0, .int i_0, .int 48, .int 57] (fun u : Unit => [(a_0, .inr (12, [.int i_1, .ref a_1, .ref a_2, .ref a_3, .ref a_4, .ref a_5, .int i_2, .int i_3, .int i_4, .int i_5, .int i_6, .long j_0, .int i_7, .int i_8, .int i_9, .int i_10, .ref a_6, .ref a_7, .ref a_8, .ref a_9, .ref a_10, .ref a_11, .ref a_12, .ref a_13, .ref a_14, .ref a_15, .ref a_16, .ref a_17, .ref a_18, .int i_11, .int i_12, .int i_13, .int i_14, .int i_15, .int i_16, .ref a_19, .int i_17, .ref a_20])), (a_5, .inl (cy 0, 600, .inl f_0))]) (fun (r : Int32) (u : Unit) => ((0 = r) ∨ (1 = r ∧ mm_rg i_0 0 599 ∧ (i_0 : Int32).toInt < (i_2 : Int32).toInt))) 0 0 := by
  refine mm_begin (lv := [(0, .ref a_0), (1, .int i_0), (2, .int 48), (3, .int 57)]) (by decide) (Nat.le_of_ble_eq_true rfl) rfl ?_
  intro p e s m below meth c A ls R args Q H locs hRe hQ hAe hx hb hr hlocks hml hown hnm hts hsz hA hS hP hK hD hZ hl
  have hRf : R.frames = 0 := by rw [hRe]
  have hRl : R.locals = 0 := by rw [hRe]
  have hRc : R.cells = 0 := by rw [hRe]
  have hRs : R.slots = 0 := by rw [hRe]
  refine lv_iload_n hx hb dX12_isByte_0 rfl (lv_at hl 1 rfl) ?_
  refine lv_aload_n hx hb dX12_isByte_1 rfl (lv_at hl 0 rfl) ?_
  refine va_get (D := G) (ci := 12) (v := .int i_2) (C := RX12) (T := TX12) (N := 38) hx hb hts (mm_i inlX12) hown hK.1 hP 0 rfl rfl 6 (by decide) (mm_h hts mm_w178) (fun _ h9 => h9) rfl dX12_isByte_2 ?_
  refine lv_icmp_ge (tgt := 32) hx hb dX12_isByte_5 (by decide) (fun c1 => ?_) (fun c1 => ?_)
  · refine lv_iconst (v := 0) hx hb dX12_isByte_32 (by decide) ?_
    subst hAe
    rw [hQ]
    exact W.zret (v := 0) hx hb hr rfl (fun t ht hW => ⟨⟨0, (), rfl, (Or.inl rfl), by rw [ht]; exact hP, hK.warm hW, hD⟩, hS.F ht⟩) hS.2.2 dX12_isByte_33
  · have q2 := mm_ltL (h := 599) (mm_nle c1) h0 h1 (by decide)
    have q3 := mm_ltR (lo := 1) (mm_nle c1) h0 h1 (by decide)
    refine lv_aload_n hx hb dX12_isByte_8 rfl (lv_at hl 0 rfl) ?_
    refine va_get (D := G) (ci := 12) (v := .ref a_5) (C := RX12) (T := TX12) (N := 38) hx hb hts (mm_i inlX12) hown hK.1 hP 0 rfl rfl 5 (by decide) (mm_h hts mm_w146) (fun _ h9 => h9) rfl dX12_isByte_9 ?_
    refine lv_iload_n hx hb dX12_isByte_12 rfl (lv_at hl 1 rfl) ?_
    refine va_bald hx hb hK.1 hP 1 0 rfl rfl (mm_in q2 (by decide)) dX12_isByte_13 ?_
    refine lv_topi (fun v4 ev4 => ?_)
    have rv4 : mm_rg v4 (-128) 127 := mm_eqv ev4 (h2 _)
    refine lv_iload_n hx hb dX12_isByte_14 rfl (lv_at hl 2 rfl) ?_
    refine lv_icmp_lt (tgt := 32) hx hb dX12_isByte_15 (by decide) (fun c5 => ?_) (fun c5 => ?_)
    · have q6 := mm_ltL (h := 47) (mm_lt c5) rv4 mm_k48 (by decide)
      refine lv_iconst (v := 0) hx hb dX12_isByte_32 (by decide) ?_
      subst hAe
      rw [hQ]
      exact W.zret (v := 0) hx hb hr rfl (fun t ht hW => ⟨⟨0, (), rfl, (Or.inl rfl), by rw [ht]; exact hP, hK.warm hW, hD⟩, hS.F ht⟩) hS.2.2 dX12_isByte_33
    · have q7 := mm_leR (mm_nlt c5) mm_k48 rv4
      refine lv_aload_n hx hb dX12_isByte_18 rfl (lv_at hl 0 rfl) ?_
      refine va_get (D := G) (ci := 12) (v := .ref a_5) (C := RX12) (T := TX12) (N := 38) hx hb hts (mm_i inlX12) hown hK.1 hP 0 rfl rfl 5 (by decide) (mm_h hts mm_w146) (fun _ h9 => h9) rfl dX12_isByte_19 ?_
      refine lv_iload_n hx hb dX12_isByte_22 rfl (lv_at hl 1 rfl) ?_
      refine va_bald hx hb hK.1 hP 1 0 rfl rfl (mm_in q2 (by decide)) dX12_isByte_23 ?_
      refine lv_topi (fun v8 ev8 => ?_)
      have rv8 : mm_rg v8 (-128) 127 := mm_eqv ev8 (h2 _)
      obtain rfl : v4 = v8 := ev4.trans ev8.symm
      refine lv_iload_n hx hb dX12_isByte_24 rfl (lv_at hl 3 rfl) ?_
      refine lv_icmp_gt (tgt := 32) hx hb dX12_isByte_25 (by decide) (fun c9 => ?_) (fun c9 => ?_)
      · have q10 := mm_ltR (lo := 58) (mm_lt c9) mm_k57 q7 (by decide)
        refine lv_iconst (v := 0) hx hb dX12_isByte_32 (by decide) ?_
        subst hAe
        rw [hQ]
        exact W.zret (v := 0) hx hb hr rfl (fun t ht hW => ⟨⟨0, (), rfl, (Or.inl rfl), by rw [ht]; exact hP, hK.warm hW, hD⟩, hS.F ht⟩) hS.2.2 dX12_isByte_33
      · have q11 := mm_leL (mm_nlt c9) q7 mm_k57
        refine lv_iconst (v := 1) hx hb dX12_isByte_28 (by decide) ?_
        refine lv_goto (tgt := 33) hx hb dX12_isByte_29 (by decide) ?_
        have w12 : (i_0 : Int32).toInt < (i_2 : Int32).toInt := (mm_nle c1)
        subst hAe
        rw [hQ]
        exact W.zret (v := 1) hx hb hr rfl (fun t ht hW => ⟨⟨1, (), rfl, (Or.inr ⟨rfl, q2, w12⟩), by rw [ht]; exact hP, hK.warm hW, hD⟩, hS.F ht⟩) hS.2.2 dX12_isByte_33

set_option maxHeartbeats 4000000 in
set_option maxRecDepth 100000 in
theorem M21_X12_isByte (l : Launch) (G : va_G) (cy : Nat → ClassId) (sz : Nat) (a_0 : Nat) (i_0 : Int32) (i_1 : Int32) (a_1 : Nat) (a_2 : Nat) (a_3 : Nat) (a_4 : Nat) (a_5 : Nat) (i_2 : Int32) (i_3 : Int32) (i_4 : Int32) (i_5 : Int32) (i_6 : Int32) (j_0 : Int64) (i_7 : Int32) (i_8 : Int32) (i_9 : Int32) (i_10 : Int32) (a_6 : Nat) (a_7 : Nat) (a_8 : Nat) (a_9 : Nat) (a_10 : Nat) (a_11 : Nat) (a_12 : Nat) (a_13 : Nat) (a_14 : Nat) (a_15 : Nat) (a_16 : Nat) (a_17 : Nat) (a_18 : Nat) (i_11 : Int32) (i_12 : Int32) (i_13 : Int32) (i_14 : Int32) (i_15 : Int32) (i_16 : Int32) (a_19 : Nat) (i_17 : Int32) (a_20 : Nat) (f_0 : Nat → Int32) (h0 : mm_rg i_0 0 600) (h1 : mm_rg i_2 0 600) (h2 : mm_ar f_0 (-128) 127)  : mm_CI l yX12_isByte (mm_ws yX12_isByte cX12_isByte 4 (some .boolean)) ({ frames := 0, cells := 0, slots := 0, locals := 0 } : Room) G cy sz [(a_0, .inr (12, [.int i_1, .ref a_1, .ref a_2, .ref a_3, .ref a_4, .ref a_5, .int i_2, .int i_3, .int i_4, .int i_5, .int i_6, .long j_0, .int i_7, .int i_8, .int i_9, .int i_10, .ref a_6, .ref a_7, .ref a_8, .ref a_9, .ref a_10, .ref a_11, .ref a_12, .ref a_13, .ref a_14, .ref a_15, .ref a_16, .ref a_17, .ref a_18, .int i_11, .int i_12, .int i_13, .int i_14, .int i_15, .int i_16, .ref a_19, .int i_17, .ref a_20])), (a_5, .inl (cy 0, 600, .inl f_0))] [.ref a_0, .int i_0, .int 97, .int 122] (fun u : Unit => [(a_0, .inr (12, [.int i_1, .ref a_1, .ref a_2, .ref a_3, .ref a_4, .ref a_5, .int i_2, .int i_3, .int i_4, .int i_5, .int i_6, .long j_0, .int i_7, .int i_8, .int i_9, .int i_10, .ref a_6, .ref a_7, .ref a_8, .ref a_9, .ref a_10, .ref a_11, .ref a_12, .ref a_13, .ref a_14, .ref a_15, .ref a_16, .ref a_17, .ref a_18, .int i_11, .int i_12, .int i_13, .int i_14, .int i_15, .int i_16, .ref a_19, .int i_17, .ref a_20])), (a_5, .inl (cy 0, 600, .inl f_0))]) (fun (r : Int32) (u : Unit) => ((0 = r) ∨ (1 = r ∧ mm_rg i_0 0 599 ∧ (i_0 : Int32).toInt < (i_2 : Int32).toInt))) 0 0 := by
  refine mm_begin (lv := [(0, .ref a_0), (1, .int i_0), (2, .int 97), (3, .int 122)]) (by decide) (Nat.le_of_ble_eq_true rfl) rfl ?_
  intro p e s m below meth c A ls R args Q H locs hRe hQ hAe hx hb hr hlocks hml hown hnm hts hsz hA hS hP hK hD hZ hl
  have hRf : R.frames = 0 := by rw [hRe]
  have hRl : R.locals = 0 := by rw [hRe]
  have hRc : R.cells = 0 := by rw [hRe]
  have hRs : R.slots = 0 := by rw [hRe]
  refine lv_iload_n hx hb dX12_isByte_0 rfl (lv_at hl 1 rfl) ?_
  refine lv_aload_n hx hb dX12_isByte_1 rfl (lv_at hl 0 rfl) ?_
  refine va_get (D := G) (ci := 12) (v := .int i_2) (C := RX12) (T := TX12) (N := 38) hx hb hts (mm_i inlX12) hown hK.1 hP 0 rfl rfl 6 (by decide) (mm_h hts mm_w178) (fun _ h9 => h9) rfl dX12_isByte_2 ?_
  refine lv_icmp_ge (tgt := 32) hx hb dX12_isByte_5 (by decide) (fun c1 => ?_) (fun c1 => ?_)
  · refine lv_iconst (v := 0) hx hb dX12_isByte_32 (by decide) ?_
    subst hAe
    rw [hQ]
    exact W.zret (v := 0) hx hb hr rfl (fun t ht hW => ⟨⟨0, (), rfl, (Or.inl rfl), by rw [ht]; exact hP, hK.warm hW, hD⟩, hS.F ht⟩) hS.2.2 dX12_isByte_33
  · have q2 := mm_ltL (h := 599) (mm_nle c1) h0 h1 (by decide)
    have q3 := mm_ltR (lo := 1) (mm_nle c1) h0 h1 (by decide)
    refine lv_aload_n hx hb dX12_isByte_8 rfl (lv_at hl 0 rfl) ?_
    refine va_get (D := G) (ci := 12) (v := .ref a_5) (C := RX12) (T := TX12) (N := 38) hx hb hts (mm_i inlX12) hown hK.1 hP 0 rfl rfl 5 (by decide) (mm_h hts mm_w146) (fun _ h9 => h9) rfl dX12_isByte_9 ?_
    refine lv_iload_n hx hb dX12_isByte_12 rfl (lv_at hl 1 rfl) ?_
    refine va_bald hx hb hK.1 hP 1 0 rfl rfl (mm_in q2 (by decide)) dX12_isByte_13 ?_
    refine lv_topi (fun v4 ev4 => ?_)
    have rv4 : mm_rg v4 (-128) 127 := mm_eqv ev4 (h2 _)
    refine lv_iload_n hx hb dX12_isByte_14 rfl (lv_at hl 2 rfl) ?_
    refine lv_icmp_lt (tgt := 32) hx hb dX12_isByte_15 (by decide) (fun c5 => ?_) (fun c5 => ?_)
    · have q6 := mm_ltL (h := 96) (mm_lt c5) rv4 mm_k97 (by decide)
      refine lv_iconst (v := 0) hx hb dX12_isByte_32 (by decide) ?_
      subst hAe
      rw [hQ]
      exact W.zret (v := 0) hx hb hr rfl (fun t ht hW => ⟨⟨0, (), rfl, (Or.inl rfl), by rw [ht]; exact hP, hK.warm hW, hD⟩, hS.F ht⟩) hS.2.2 dX12_isByte_33
    · have q7 := mm_leR (mm_nlt c5) mm_k97 rv4
      refine lv_aload_n hx hb dX12_isByte_18 rfl (lv_at hl 0 rfl) ?_
      refine va_get (D := G) (ci := 12) (v := .ref a_5) (C := RX12) (T := TX12) (N := 38) hx hb hts (mm_i inlX12) hown hK.1 hP 0 rfl rfl 5 (by decide) (mm_h hts mm_w146) (fun _ h9 => h9) rfl dX12_isByte_19 ?_
      refine lv_iload_n hx hb dX12_isByte_22 rfl (lv_at hl 1 rfl) ?_
      refine va_bald hx hb hK.1 hP 1 0 rfl rfl (mm_in q2 (by decide)) dX12_isByte_23 ?_
      refine lv_topi (fun v8 ev8 => ?_)
      have rv8 : mm_rg v8 (-128) 127 := mm_eqv ev8 (h2 _)
      obtain rfl : v4 = v8 := ev4.trans ev8.symm
      refine lv_iload_n hx hb dX12_isByte_24 rfl (lv_at hl 3 rfl) ?_
      refine lv_icmp_gt (tgt := 32) hx hb dX12_isByte_25 (by decide) (fun c9 => ?_) (fun c9 => ?_)
      · have q10 := mm_ltR (lo := 123) (mm_lt c9) mm_k122 q7 (by decide)
        refine lv_iconst (v := 0) hx hb dX12_isByte_32 (by decide) ?_
        subst hAe
        rw [hQ]
        exact W.zret (v := 0) hx hb hr rfl (fun t ht hW => ⟨⟨0, (), rfl, (Or.inl rfl), by rw [ht]; exact hP, hK.warm hW, hD⟩, hS.F ht⟩) hS.2.2 dX12_isByte_33
      · have q11 := mm_leL (mm_nlt c9) q7 mm_k122
        refine lv_iconst (v := 1) hx hb dX12_isByte_28 (by decide) ?_
        refine lv_goto (tgt := 33) hx hb dX12_isByte_29 (by decide) ?_
        have w12 : (i_0 : Int32).toInt < (i_2 : Int32).toInt := (mm_nle c1)
        subst hAe
        rw [hQ]
        exact W.zret (v := 1) hx hb hr rfl (fun t ht hW => ⟨⟨1, (), rfl, (Or.inr ⟨rfl, q2, w12⟩), by rw [ht]; exact hP, hK.warm hW, hD⟩, hS.F ht⟩) hS.2.2 dX12_isByte_33

set_option maxHeartbeats 4000000 in
set_option maxRecDepth 100000 in
theorem M22_X12_next (l : Launch) (G : va_G) (cy : Nat → ClassId) (sz : Nat) (a_0 : Nat) (i_0 : Int32) (a_1 : Nat) (a_2 : Nat) (a_3 : Nat) (a_4 : Nat) (a_5 : Nat) (i_1 : Int32) (i_2 : Int32) (i_3 : Int32) (i_4 : Int32) (i_5 : Int32) (j_0 : Int64) (i_6 : Int32) (i_7 : Int32) (i_8 : Int32) (i_9 : Int32) (a_6 : Nat) (a_7 : Nat) (a_8 : Nat) (a_9 : Nat) (a_10 : Nat) (a_11 : Nat) (a_12 : Nat) (a_13 : Nat) (a_14 : Nat) (a_15 : Nat) (a_16 : Nat) (a_17 : Nat) (a_18 : Nat) (i_10 : Int32) (i_11 : Int32) (i_12 : Int32) (i_13 : Int32) (i_14 : Int32) (i_15 : Int32) (a_19 : Nat) (i_16 : Int32) (a_20 : Nat) (f_0 : Nat → Int32) (h0 : mm_rg i_1 0 600) (h1 : mm_rg i_2 0 600) (h2 : mm_rg i_3 0 4) (h3 : mm_rg i_4 0 600) (h4 : mm_ar f_0 (-128) 127) (h5 : (i_2 : Int32).toInt ≤ (i_1 : Int32).toInt)  : mm_CV l yX12_next (mm_ws yX12_next cX12_next 2 (none)) ({ frames := 1, cells := 0, slots := 0, locals := 23 } : Room) G cy sz [(a_0, .inr (12, [.int i_0, .ref a_1, .ref a_2, .ref a_3, .ref a_4, .ref a_5, .int i_1, .int i_2, .int i_3, .int i_4, .int i_5, .long j_0, .int i_6, .int i_7, .int i_8, .int i_9, .ref a_6, .ref a_7, .ref a_8, .ref a_9, .ref a_10, .ref a_11, .ref a_12, .ref a_13, .ref a_14, .ref a_15, .ref a_16, .ref a_17, .ref a_18, .int i_10, .int i_11, .int i_12, .int i_13, .int i_14, .int i_15, .ref a_19, .int i_16, .ref a_20])), (a_5, .inl (cy 0, 600, .inl f_0))] [.ref a_0] (fun u : Int32 × Int32 × Int32 × Int32 × Int64 => [(a_0, .inr (12, [.int i_0, .ref a_1, .ref a_2, .ref a_3, .ref a_4, .ref a_5, .int i_1, .int u.1, .int u.2.1, .int u.2.2.1, .int u.2.2.2.1, .long u.2.2.2.2, .int i_6, .int i_7, .int i_8, .int i_9, .ref a_6, .ref a_7, .ref a_8, .ref a_9, .ref a_10, .ref a_11, .ref a_12, .ref a_13, .ref a_14, .ref a_15, .ref a_16, .ref a_17, .ref a_18, .int i_10, .int i_11, .int i_12, .int i_13, .int i_14, .int i_15, .ref a_19, .int i_16, .ref a_20])), (a_5, .inl (cy 0, 600, .inl f_0))]) (fun u : Int32 × Int32 × Int32 × Int32 × Int64 => mm_rg u.1 0 600 ∧ mm_rg u.2.1 0 4 ∧ mm_rg u.2.2.1 0 600 ∧ (u.2.2.1 : Int32).toInt ≤ (u.1 : Int32).toInt ∧ (u.1 : Int32).toInt ≤ (i_1 : Int32).toInt ∧ mm_tk u.2.1 u.2.2.1 u.1 ∧ (i_2 : Int32).toInt ≤ (u.2.2.1 : Int32).toInt) 0 0 := by
  refine mm_begin (lv := [(0, .ref a_0)]) (by decide) (Nat.le_of_ble_eq_true rfl) rfl ?_
  intro p e s m below meth c A ls R args Q H locs hRe hQ hAe hx hb hr hlocks hml hown hnm hts hsz hA hS hP hK hD hZ hl
  have hRf : R.frames = 1 := by rw [hRe]
  have hRl : R.locals = 23 := by rw [hRe]
  have hRc : R.cells = 0 := by rw [hRe]
  have hRs : R.slots = 0 := by rw [hRe]
  have L0_31 : ∀ (n : Nat) (y0_0_7_29 : Int32), mm_rg y0_0_7_29 0 600 → (y0_0_7_29 : Int32).toInt ≤ (i_1 : Int32).toInt → (i_2 : Int32).toInt ≤ (y0_0_7_29 : Int32).toInt → (600 - y0_0_7_29.toInt).toNat < n → ∀ (H : Heap) (locs : List Loc), va_P G vwCl [(a_0, .inr (12, [.int i_0, .ref a_1, .ref a_2, .ref a_3, .ref a_4, .ref a_5, .int i_1, .int y0_0_7_29, .int i_3, .int i_4, .int i_5, .long j_0, .int i_6, .int i_7, .int i_8, .int i_9, .ref a_6, .ref a_7, .ref a_8, .ref a_9, .ref a_10, .ref a_11, .ref a_12, .ref a_13, .ref a_14, .ref a_15, .ref a_16, .ref a_17, .ref a_18, .int i_10, .int i_11, .int i_12, .int i_13, .int i_14, .int i_15, .ref a_19, .int i_16, .ref a_20])), (a_5, .inl (cy 0, 600, .inl f_0))] H → va_D A [(a_0, .inr (12, [.int i_0, .ref a_1, .ref a_2, .ref a_3, .ref a_4, .ref a_5, .int i_1, .int y0_0_7_29, .int i_3, .int i_4, .int i_5, .long j_0, .int i_6, .int i_7, .int i_8, .int i_9, .ref a_6, .ref a_7, .ref a_8, .ref a_9, .ref a_10, .ref a_11, .ref a_12, .ref a_13, .ref a_14, .ref a_15, .ref a_16, .ref a_17, .ref a_18, .int i_10, .int i_11, .int i_12, .int i_13, .int i_14, .int i_15, .ref a_19, .int i_16, .ref a_20])), (a_5, .inl (cy 0, 600, .inl f_0))] → va_S A s.heap H locs → ∀ (ls : Array Slot), lv_has ls 2 [(0, .ref a_0)] → W p l e R s m args below meth c H locs 0 0 Q (F0 m 0 ls []) := by
    intro n
    induction n with
    | zero => intro y0_0_7_29 ry0_0_7_29 w30 w31 hm; exact absurd hm (Nat.not_lt_zero _)
    | succ n ih0 =>
      intro y0_0_7_29 ry0_0_7_29 w30 w31 hm0 H locs hP hD hS ls hl
      refine lv_aload_n hx hb dX12_next_0 rfl (lv_at hl 0 rfl) ?_
      refine lv_aload_n hx hb dX12_next_1 rfl (lv_at hl 0 rfl) ?_
      refine va_get (D := G) (ci := 12) (v := .int y0_0_7_29) (C := RX12) (T := TX12) (N := 38) hx hb hts (mm_i inlX12) hown hK.1 hP 0 rfl rfl 7 (by decide) (mm_h hts mm_w450) (fun _ h9 => h9) rfl dX12_next_2 ?_
      refine lv_bipush (v := 32) hx hb dX12_next_5 (by decide) ?_
      refine lv_bipush (v := 32) hx hb dX12_next_7 (by decide) ?_
      refine mm_finir (va_runV (As := [.int y0_0_7_29, .int 32, .int 32]) (rest := []) ⟨hx, hb, hml, hown, hts⟩ (M16_X12_isByte l G cy H.size a_0 y0_0_7_29 i_0 a_1 a_2 a_3 a_4 a_5 i_1 y0_0_7_29 i_3 i_4 i_5 j_0 i_6 i_7 i_8 i_9 a_6 a_7 a_8 a_9 a_10 a_11 a_12 a_13 a_14 a_15 a_16 a_17 a_18 i_10 i_11 i_12 i_13 i_14 i_15 a_19 i_16 a_20 f_0 ry0_0_7_29 h0 h4) (cwV 3 hts (mm_gV mm_w463 mm_w464 mm_w465 mm_w5 mm_w466) rfl rfl rfl hd_X12_isByte ⟨by rw [hRf]; exact Nat.le_of_ble_eq_true rfl, by rw [hRl]; exact Nat.le_of_ble_eq_true rfl⟩) (mm_preV hK hZ hS hA hP hD [0, 1] rfl rfl 0 rfl rfl rfl) rfl rfl hl.1 rfl (lv_room (Nat.le_of_ble_eq_true rfl)) dX12_next_9 ⟨by rw [hRc]; exact Nat.le_of_ble_eq_true rfl, by rw [hRs]; exact Nat.le_of_ble_eq_true rfl⟩) hP hD hS hA [0, 1] rfl (fun _ => rfl) ?_
      clear hP hD hS
      clear H locs
      intro v33 _u H locs hw hP hD hS
      rcases hw with rfl | ⟨rfl, w34, w35⟩
      · refine lv_if_ne (tgt := 30) hx hb dX12_next_12 (by decide) (fun c36 => ?_) (fun c36 => ?_)
        · exact absurd rfl (mm_ne c36)
        · refine lv_aload_n hx hb dX12_next_15 rfl (lv_at hl 0 rfl) ?_
          refine lv_aload_n hx hb dX12_next_16 rfl (lv_at hl 0 rfl) ?_
          refine va_get (D := G) (ci := 12) (v := .int y0_0_7_29) (C := RX12) (T := TX12) (N := 38) hx hb hts (mm_i inlX12) hown hK.1 hP 0 rfl rfl 7 (by decide) (mm_h hts mm_w450) (fun _ h9 => h9) rfl dX12_next_17 ?_
          refine lv_bipush (v := 10) hx hb dX12_next_20 (by decide) ?_
          refine lv_bipush (v := 10) hx hb dX12_next_22 (by decide) ?_
          refine mm_finir (va_runV (As := [.int y0_0_7_29, .int 10, .int 10]) (rest := []) ⟨hx, hb, hml, hown, hts⟩ (M17_X12_isByte l G cy H.size a_0 y0_0_7_29 i_0 a_1 a_2 a_3 a_4 a_5 i_1 y0_0_7_29 i_3 i_4 i_5 j_0 i_6 i_7 i_8 i_9 a_6 a_7 a_8 a_9 a_10 a_11 a_12 a_13 a_14 a_15 a_16 a_17 a_18 i_10 i_11 i_12 i_13 i_14 i_15 a_19 i_16 a_20 f_0 ry0_0_7_29 h0 h4) (cwV 3 hts (mm_gV mm_w463 mm_w464 mm_w465 mm_w5 mm_w466) rfl rfl rfl hd_X12_isByte ⟨by rw [hRf]; exact Nat.le_of_ble_eq_true rfl, by rw [hRl]; exact Nat.le_of_ble_eq_true rfl⟩) (mm_preV hK hZ hS hA hP hD [0, 1] rfl rfl 0 rfl rfl rfl) rfl rfl hl.1 rfl (lv_room (Nat.le_of_ble_eq_true rfl)) dX12_next_24 ⟨by rw [hRc]; exact Nat.le_of_ble_eq_true rfl, by rw [hRs]; exact Nat.le_of_ble_eq_true rfl⟩) hP hD hS hA [0, 1] rfl (fun _ => rfl) ?_
          clear hP hD hS
          clear H locs
          intro v37 _u H locs hw hP hD hS
          rcases hw with rfl | ⟨rfl, w38, w39⟩
          · refine lv_if_eq (tgt := 43) hx hb dX12_next_27 (by decide) (fun c40 => ?_) (fun c40 => ?_)
            · refine lv_aload_n hx hb dX12_next_43 rfl (lv_at hl 0 rfl) ?_
              refine lv_aload_n hx hb dX12_next_44 rfl (lv_at hl 0 rfl) ?_
              refine va_get (D := G) (ci := 12) (v := .int y0_0_7_29) (C := RX12) (T := TX12) (N := 38) hx hb hts (mm_i inlX12) hown hK.1 hP 0 rfl rfl 7 (by decide) (mm_h hts mm_w450) (fun _ h9 => h9) rfl dX12_next_45 ?_
              refine va_put (D := G) (ci := 12) (v := .int y0_0_7_29) (ty := tyX12 9) (C := RX12) (T := TX12) (N := 38) hx hb hts (mm_i inlX12) tyX12 tyX12_ok nmX12 hown hK.1 hP hD hS 0 rfl rfl 9 (by decide) (mm_h hts mm_w455) (fun _ h9 => h9) rfl (tyX12_ok 9 (by decide)) rfl rfl (Nat.le_of_ble_eq_true rfl) dX12_next_48 ?_
              clear hP hD hS
              clear H locs
              intro H locs (hP : va_P G vwCl [(a_0, .inr (12, [.int i_0, .ref a_1, .ref a_2, .ref a_3, .ref a_4, .ref a_5, .int i_1, .int y0_0_7_29, .int i_3, .int y0_0_7_29, .int i_5, .long j_0, .int i_6, .int i_7, .int i_8, .int i_9, .ref a_6, .ref a_7, .ref a_8, .ref a_9, .ref a_10, .ref a_11, .ref a_12, .ref a_13, .ref a_14, .ref a_15, .ref a_16, .ref a_17, .ref a_18, .int i_10, .int i_11, .int i_12, .int i_13, .int i_14, .int i_15, .ref a_19, .int i_16, .ref a_20])), (a_5, .inl (cy 0, 600, .inl f_0))] H) (hD : va_D A [(a_0, .inr (12, [.int i_0, .ref a_1, .ref a_2, .ref a_3, .ref a_4, .ref a_5, .int i_1, .int y0_0_7_29, .int i_3, .int y0_0_7_29, .int i_5, .long j_0, .int i_6, .int i_7, .int i_8, .int i_9, .ref a_6, .ref a_7, .ref a_8, .ref a_9, .ref a_10, .ref a_11, .ref a_12, .ref a_13, .ref a_14, .ref a_15, .ref a_16, .ref a_17, .ref a_18, .int i_10, .int i_11, .int i_12, .int i_13, .int i_14, .int i_15, .ref a_19, .int i_16, .ref a_20])), (a_5, .inl (cy 0, 600, .inl f_0))]) hS
              refine lv_aload_n hx hb dX12_next_51 rfl (lv_at hl 0 rfl) ?_
              refine lv_iconst (v := 0) hx hb dX12_next_52 (by decide) ?_
              refine va_put (D := G) (ci := 12) (v := .int 0) (ty := tyX12 10) (C := RX12) (T := TX12) (N := 38) hx hb hts (mm_i inlX12) tyX12 tyX12_ok nmX12 hown hK.1 hP hD hS 0 rfl rfl 10 (by decide) (mm_h hts mm_w456) (fun _ h9 => h9) rfl (tyX12_ok 10 (by decide)) rfl rfl (Nat.le_of_ble_eq_true rfl) dX12_next_53 ?_
              clear hP hD hS
              clear H locs
              intro H locs (hP : va_P G vwCl [(a_0, .inr (12, [.int i_0, .ref a_1, .ref a_2, .ref a_3, .ref a_4, .ref a_5, .int i_1, .int y0_0_7_29, .int i_3, .int y0_0_7_29, .int 0, .long j_0, .int i_6, .int i_7, .int i_8, .int i_9, .ref a_6, .ref a_7, .ref a_8, .ref a_9, .ref a_10, .ref a_11, .ref a_12, .ref a_13, .ref a_14, .ref a_15, .ref a_16, .ref a_17, .ref a_18, .int i_10, .int i_11, .int i_12, .int i_13, .int i_14, .int i_15, .ref a_19, .int i_16, .ref a_20])), (a_5, .inl (cy 0, 600, .inl f_0))] H) (hD : va_D A [(a_0, .inr (12, [.int i_0, .ref a_1, .ref a_2, .ref a_3, .ref a_4, .ref a_5, .int i_1, .int y0_0_7_29, .int i_3, .int y0_0_7_29, .int 0, .long j_0, .int i_6, .int i_7, .int i_8, .int i_9, .ref a_6, .ref a_7, .ref a_8, .ref a_9, .ref a_10, .ref a_11, .ref a_12, .ref a_13, .ref a_14, .ref a_15, .ref a_16, .ref a_17, .ref a_18, .int i_10, .int i_11, .int i_12, .int i_13, .int i_14, .int i_15, .ref a_19, .int i_16, .ref a_20])), (a_5, .inl (cy 0, 600, .inl f_0))]) hS
              refine lv_aload_n hx hb dX12_next_56 rfl (lv_at hl 0 rfl) ?_
              refine lv_lconst (v := 0) hx hb dX12_next_57 (by decide) ?_
              refine va_put (D := G) (ci := 12) (v := .long 0) (ty := tyX12 11) (C := RX12) (T := TX12) (N := 38) hx hb hts (mm_i inlX12) tyX12 tyX12_ok nmX12 hown hK.1 hP hD hS 0 rfl rfl 11 (by decide) (mm_h hts mm_w457) (fun _ h9 => h9) rfl (tyX12_ok 11 (by decide)) rfl rfl (Nat.le_of_ble_eq_true rfl) dX12_next_58 ?_
              clear hP hD hS
              clear H locs
              intro H locs (hP : va_P G vwCl [(a_0, .inr (12, [.int i_0, .ref a_1, .ref a_2, .ref a_3, .ref a_4, .ref a_5, .int i_1, .int y0_0_7_29, .int i_3, .int y0_0_7_29, .int 0, .long 0, .int i_6, .int i_7, .int i_8, .int i_9, .ref a_6, .ref a_7, .ref a_8, .ref a_9, .ref a_10, .ref a_11, .ref a_12, .ref a_13, .ref a_14, .ref a_15, .ref a_16, .ref a_17, .ref a_18, .int i_10, .int i_11, .int i_12, .int i_13, .int i_14, .int i_15, .ref a_19, .int i_16, .ref a_20])), (a_5, .inl (cy 0, 600, .inl f_0))] H) (hD : va_D A [(a_0, .inr (12, [.int i_0, .ref a_1, .ref a_2, .ref a_3, .ref a_4, .ref a_5, .int i_1, .int y0_0_7_29, .int i_3, .int y0_0_7_29, .int 0, .long 0, .int i_6, .int i_7, .int i_8, .int i_9, .ref a_6, .ref a_7, .ref a_8, .ref a_9, .ref a_10, .ref a_11, .ref a_12, .ref a_13, .ref a_14, .ref a_15, .ref a_16, .ref a_17, .ref a_18, .int i_10, .int i_11, .int i_12, .int i_13, .int i_14, .int i_15, .ref a_19, .int i_16, .ref a_20])), (a_5, .inl (cy 0, 600, .inl f_0))]) hS
              refine lv_aload_n hx hb dX12_next_61 rfl (lv_at hl 0 rfl) ?_
              refine va_get (D := G) (ci := 12) (v := .int y0_0_7_29) (C := RX12) (T := TX12) (N := 38) hx hb hts (mm_i inlX12) hown hK.1 hP 0 rfl rfl 7 (by decide) (mm_h hts mm_w450) (fun _ h9 => h9) rfl dX12_next_62 ?_
              refine lv_aload_n hx hb dX12_next_65 rfl (lv_at hl 0 rfl) ?_
              refine va_get (D := G) (ci := 12) (v := .int i_1) (C := RX12) (T := TX12) (N := 38) hx hb hts (mm_i inlX12) hown hK.1 hP 0 rfl rfl 6 (by decide) (mm_h hts mm_w178) (fun _ h9 => h9) rfl dX12_next_66 ?_
              refine lv_icmp_ne (tgt := 80) hx hb dX12_next_69 (by decide) (fun c41 => ?_) (fun c41 => ?_)
              · have w42 := mm_ltne w30 (mm_ne c41)
                have q43 := mm_ltL (h := 599) w42 ry0_0_7_29 h0 (by decide)
                have q44 := mm_ltR (lo := 1) w42 ry0_0_7_29 h0 (by decide)
                have q45 := mm_leL w31 h1 q43
                refine lv_aload_n hx hb dX12_next_80 rfl (lv_at hl 0 rfl) ?_
                refine lv_aload_n hx hb dX12_next_81 rfl (lv_at hl 0 rfl) ?_
                refine va_get (D := G) (ci := 12) (v := .int y0_0_7_29) (C := RX12) (T := TX12) (N := 38) hx hb hts (mm_i inlX12) hown hK.1 hP 0 rfl rfl 7 (by decide) (mm_h hts mm_w450) (fun _ h9 => h9) rfl dX12_next_82 ?_
                refine lv_bipush (v := 97) hx hb dX12_next_85 (by decide) ?_
                refine lv_bipush (v := 122) hx hb dX12_next_87 (by decide) ?_
                refine mm_finir (va_runV (As := [.int y0_0_7_29, .int 97, .int 122]) (rest := []) ⟨hx, hb, hml, hown, hts⟩ (M18_X12_isByte l G cy H.size a_0 y0_0_7_29 i_0 a_1 a_2 a_3 a_4 a_5 i_1 y0_0_7_29 i_3 y0_0_7_29 0 0 i_6 i_7 i_8 i_9 a_6 a_7 a_8 a_9 a_10 a_11 a_12 a_13 a_14 a_15 a_16 a_17 a_18 i_10 i_11 i_12 i_13 i_14 i_15 a_19 i_16 a_20 f_0 q43 (mm_wk q44 (by decide)) h4) (cwV 3 hts (mm_gV mm_w463 mm_w464 mm_w465 mm_w5 mm_w466) rfl rfl rfl hd_X12_isByte ⟨by rw [hRf]; exact Nat.le_of_ble_eq_true rfl, by rw [hRl]; exact Nat.le_of_ble_eq_true rfl⟩) (mm_preV hK hZ hS hA hP hD [0, 1] rfl rfl 0 rfl rfl rfl) rfl rfl hl.1 rfl (lv_room (Nat.le_of_ble_eq_true rfl)) dX12_next_89 ⟨by rw [hRc]; exact Nat.le_of_ble_eq_true rfl, by rw [hRs]; exact Nat.le_of_ble_eq_true rfl⟩) hP hD hS hA [0, 1] rfl (fun _ => rfl) ?_
                clear hP hD hS
                clear H locs
                intro v46 _u H locs hw hP hD hS
                rcases hw with rfl | ⟨rfl, w47⟩
                · refine lv_if_eq (tgt := 188) hx hb dX12_next_92 (by decide) (fun c48 => ?_) (fun c48 => ?_)
                  · refine lv_aload_n hx hb dX12_next_188 rfl (lv_at hl 0 rfl) ?_
                    refine lv_aload_n hx hb dX12_next_189 rfl (lv_at hl 0 rfl) ?_
                    refine va_get (D := G) (ci := 12) (v := .int y0_0_7_29) (C := RX12) (T := TX12) (N := 38) hx hb hts (mm_i inlX12) hown hK.1 hP 0 rfl rfl 7 (by decide) (mm_h hts mm_w450) (fun _ h9 => h9) rfl dX12_next_190 ?_
                    refine lv_bipush (v := 48) hx hb dX12_next_193 (by decide) ?_
                    refine lv_bipush (v := 57) hx hb dX12_next_195 (by decide) ?_
                    refine mm_finir (va_runV (As := [.int y0_0_7_29, .int 48, .int 57]) (rest := []) ⟨hx, hb, hml, hown, hts⟩ (M19_X12_isByte l G cy H.size a_0 y0_0_7_29 i_0 a_1 a_2 a_3 a_4 a_5 i_1 y0_0_7_29 i_3 y0_0_7_29 0 0 i_6 i_7 i_8 i_9 a_6 a_7 a_8 a_9 a_10 a_11 a_12 a_13 a_14 a_15 a_16 a_17 a_18 i_10 i_11 i_12 i_13 i_14 i_15 a_19 i_16 a_20 f_0 q43 (mm_wk q44 (by decide)) h4) (cwV 3 hts (mm_gV mm_w463 mm_w464 mm_w465 mm_w5 mm_w466) rfl rfl rfl hd_X12_isByte ⟨by rw [hRf]; exact Nat.le_of_ble_eq_true rfl, by rw [hRl]; exact Nat.le_of_ble_eq_true rfl⟩) (mm_preV hK hZ hS hA hP hD [0, 1] rfl rfl 0 rfl rfl rfl) rfl rfl hl.1 rfl (lv_room (Nat.le_of_ble_eq_true rfl)) dX12_next_197 ⟨by rw [hRc]; exact Nat.le_of_ble_eq_true rfl, by rw [hRs]; exact Nat.le_of_ble_eq_true rfl⟩) hP hD hS hA [0, 1] rfl (fun _ => rfl) ?_
                    clear hP hD hS
                    clear H locs
                    intro v49 _u H locs hw hP hD hS
                    rcases hw with rfl | ⟨rfl, w50⟩
                    · refine lv_if_eq (tgt := 274) hx hb dX12_next_200 (by decide) (fun c51 => ?_) (fun c51 => ?_)
                      · refine lv_aload_n hx hb dX12_next_274 rfl (lv_at hl 0 rfl) ?_
                        refine lv_aload_n hx hb dX12_next_275 rfl (lv_at hl 0 rfl) ?_
                        refine va_get (D := G) (ci := 12) (v := .ref a_5) (C := RX12) (T := TX12) (N := 38) hx hb hts (mm_i inlX12) hown hK.1 hP 0 rfl rfl 5 (by decide) (mm_h hts mm_w146) (fun _ h9 => h9) rfl dX12_next_276 ?_
                        refine lv_aload_n hx hb dX12_next_279 rfl (lv_at hl 0 rfl) ?_
                        refine va_get (D := G) (ci := 12) (v := .int y0_0_7_29) (C := RX12) (T := TX12) (N := 38) hx hb hts (mm_i inlX12) hown hK.1 hP 0 rfl rfl 7 (by decide) (mm_h hts mm_w450) (fun _ h9 => h9) rfl dX12_next_280 ?_
                        refine va_bald hx hb hK.1 hP 1 0 rfl rfl (mm_in q43 (by decide)) dX12_next_283 ?_
                        refine lv_topi (fun v52 ev52 => ?_)
                        have rv52 : mm_rg v52 (-128) 127 := mm_eqv ev52 (h4 _)
                        refine lv_bipush (v := 59) hx hb dX12_next_284 (by decide) ?_
                        refine lv_icmp_ne (tgt := 293) hx hb dX12_next_286 (by decide) (fun c53 => ?_) (fun c53 => ?_)
                        · refine lv_iconst (v := 4) hx hb dX12_next_293 (by decide) ?_
                          refine va_put (D := G) (ci := 12) (v := .int 4) (ty := tyX12 8) (C := RX12) (T := TX12) (N := 38) hx hb hts (mm_i inlX12) tyX12 tyX12_ok nmX12 hown hK.1 hP hD hS 0 rfl rfl 8 (by decide) (mm_h hts mm_w432) (fun _ h9 => h9) rfl (tyX12_ok 8 (by decide)) rfl rfl (Nat.le_of_ble_eq_true rfl) dX12_next_294 ?_
                          clear hP hD hS
                          clear H locs
                          intro H locs (hP : va_P G vwCl [(a_0, .inr (12, [.int i_0, .ref a_1, .ref a_2, .ref a_3, .ref a_4, .ref a_5, .int i_1, .int y0_0_7_29, .int 4, .int y0_0_7_29, .int 0, .long 0, .int i_6, .int i_7, .int i_8, .int i_9, .ref a_6, .ref a_7, .ref a_8, .ref a_9, .ref a_10, .ref a_11, .ref a_12, .ref a_13, .ref a_14, .ref a_15, .ref a_16, .ref a_17, .ref a_18, .int i_10, .int i_11, .int i_12, .int i_13, .int i_14, .int i_15, .ref a_19, .int i_16, .ref a_20])), (a_5, .inl (cy 0, 600, .inl f_0))] H) (hD : va_D A [(a_0, .inr (12, [.int i_0, .ref a_1, .ref a_2, .ref a_3, .ref a_4, .ref a_5, .int i_1, .int y0_0_7_29, .int 4, .int y0_0_7_29, .int 0, .long 0, .int i_6, .int i_7, .int i_8, .int i_9, .ref a_6, .ref a_7, .ref a_8, .ref a_9, .ref a_10, .ref a_11, .ref a_12, .ref a_13, .ref a_14, .ref a_15, .ref a_16, .ref a_17, .ref a_18, .int i_10, .int i_11, .int i_12, .int i_13, .int i_14, .int i_15, .ref a_19, .int i_16, .ref a_20])), (a_5, .inl (cy 0, 600, .inl f_0))]) hS
                          refine lv_aload_n hx hb dX12_next_297 rfl (lv_at hl 0 rfl) ?_
                          refine lv_dup hx hb dX12_next_298 rfl ?_
                          refine va_get (D := G) (ci := 12) (v := .int y0_0_7_29) (C := RX12) (T := TX12) (N := 38) hx hb hts (mm_i inlX12) hown hK.1 hP 0 rfl rfl 7 (by decide) (mm_h hts mm_w450) (fun _ h9 => h9) rfl dX12_next_299 ?_
                          refine lv_iconst (v := 1) hx hb dX12_next_302 (by decide) ?_
                          refine lv_iadd hx hb dX12_next_303 ?_
                          refine lv_topi (fun v54 ev54 => ?_)
                          have rv54 : mm_rg v54 1 600 := mm_add ev54 q43 mm_k1 (by decide) (by decide)
                          have tv54 := mm_addEc ev54 q43 mm_k1 (by decide) (k := 1) (by decide)
                          refine va_put (D := G) (ci := 12) (v := .int v54) (ty := tyX12 7) (C := RX12) (T := TX12) (N := 38) hx hb hts (mm_i inlX12) tyX12 tyX12_ok nmX12 hown hK.1 hP hD hS 0 rfl rfl 7 (by decide) (mm_h hts mm_w450) (fun _ h9 => h9) rfl (tyX12_ok 7 (by decide)) rfl rfl (Nat.le_of_ble_eq_true rfl) dX12_next_304 ?_
                          clear hP hD hS
                          clear H locs
                          intro H locs (hP : va_P G vwCl [(a_0, .inr (12, [.int i_0, .ref a_1, .ref a_2, .ref a_3, .ref a_4, .ref a_5, .int i_1, .int v54, .int 4, .int y0_0_7_29, .int 0, .long 0, .int i_6, .int i_7, .int i_8, .int i_9, .ref a_6, .ref a_7, .ref a_8, .ref a_9, .ref a_10, .ref a_11, .ref a_12, .ref a_13, .ref a_14, .ref a_15, .ref a_16, .ref a_17, .ref a_18, .int i_10, .int i_11, .int i_12, .int i_13, .int i_14, .int i_15, .ref a_19, .int i_16, .ref a_20])), (a_5, .inl (cy 0, 600, .inl f_0))] H) (hD : va_D A [(a_0, .inr (12, [.int i_0, .ref a_1, .ref a_2, .ref a_3, .ref a_4, .ref a_5, .int i_1, .int v54, .int 4, .int y0_0_7_29, .int 0, .long 0, .int i_6, .int i_7, .int i_8, .int i_9, .ref a_6, .ref a_7, .ref a_8, .ref a_9, .ref a_10, .ref a_11, .ref a_12, .ref a_13, .ref a_14, .ref a_15, .ref a_16, .ref a_17, .ref a_18, .int i_10, .int i_11, .int i_12, .int i_13, .int i_14, .int i_15, .ref a_19, .int i_16, .ref a_20])), (a_5, .inl (cy 0, 600, .inl f_0))]) hS
                          have w55 : (y0_0_7_29 : Int32).toInt ≤ (v54 : Int32).toInt := (by have := tv54; omega)
                          have w56 : (v54 : Int32).toInt ≤ (i_1 : Int32).toInt := (by have := tv54; have := w42; omega)
                          have w57 : mm_tk 4 y0_0_7_29 v54 := (Or.inr (by have := tv54; omega))
                          subst hAe
                          rw [hQ]
                          exact W.vret hx hb hr (fun t ht hW => ⟨⟨(v54, 4, y0_0_7_29, 0, 0), rfl, ⟨(mm_wk rv54 (by decide)), (mm_wk mm_k4 (by decide)), (mm_wk q43 (by decide)), w55, w56, w57, w31⟩, by rw [ht]; exact hP, hK.warm hW, hD⟩, hS.F ht⟩) hS.2.2 dX12_next_307
                        · have q58 := mm_eqI (lo := 59) (hi := 59) c53 rv52 mm_k59 (by decide)
                          refine lv_iconst (v := 3) hx hb dX12_next_289 (by decide) ?_
                          refine lv_goto (tgt := 294) hx hb dX12_next_290 (by decide) ?_
                          refine va_put (D := G) (ci := 12) (v := .int 3) (ty := tyX12 8) (C := RX12) (T := TX12) (N := 38) hx hb hts (mm_i inlX12) tyX12 tyX12_ok nmX12 hown hK.1 hP hD hS 0 rfl rfl 8 (by decide) (mm_h hts mm_w432) (fun _ h9 => h9) rfl (tyX12_ok 8 (by decide)) rfl rfl (Nat.le_of_ble_eq_true rfl) dX12_next_294 ?_
                          clear hP hD hS
                          clear H locs
                          intro H locs (hP : va_P G vwCl [(a_0, .inr (12, [.int i_0, .ref a_1, .ref a_2, .ref a_3, .ref a_4, .ref a_5, .int i_1, .int y0_0_7_29, .int 3, .int y0_0_7_29, .int 0, .long 0, .int i_6, .int i_7, .int i_8, .int i_9, .ref a_6, .ref a_7, .ref a_8, .ref a_9, .ref a_10, .ref a_11, .ref a_12, .ref a_13, .ref a_14, .ref a_15, .ref a_16, .ref a_17, .ref a_18, .int i_10, .int i_11, .int i_12, .int i_13, .int i_14, .int i_15, .ref a_19, .int i_16, .ref a_20])), (a_5, .inl (cy 0, 600, .inl f_0))] H) (hD : va_D A [(a_0, .inr (12, [.int i_0, .ref a_1, .ref a_2, .ref a_3, .ref a_4, .ref a_5, .int i_1, .int y0_0_7_29, .int 3, .int y0_0_7_29, .int 0, .long 0, .int i_6, .int i_7, .int i_8, .int i_9, .ref a_6, .ref a_7, .ref a_8, .ref a_9, .ref a_10, .ref a_11, .ref a_12, .ref a_13, .ref a_14, .ref a_15, .ref a_16, .ref a_17, .ref a_18, .int i_10, .int i_11, .int i_12, .int i_13, .int i_14, .int i_15, .ref a_19, .int i_16, .ref a_20])), (a_5, .inl (cy 0, 600, .inl f_0))]) hS
                          refine lv_aload_n hx hb dX12_next_297 rfl (lv_at hl 0 rfl) ?_
                          refine lv_dup hx hb dX12_next_298 rfl ?_
                          refine va_get (D := G) (ci := 12) (v := .int y0_0_7_29) (C := RX12) (T := TX12) (N := 38) hx hb hts (mm_i inlX12) hown hK.1 hP 0 rfl rfl 7 (by decide) (mm_h hts mm_w450) (fun _ h9 => h9) rfl dX12_next_299 ?_
                          refine lv_iconst (v := 1) hx hb dX12_next_302 (by decide) ?_
                          refine lv_iadd hx hb dX12_next_303 ?_
                          refine lv_topi (fun v59 ev59 => ?_)
                          have rv59 : mm_rg v59 1 600 := mm_add ev59 q43 mm_k1 (by decide) (by decide)
                          have tv59 := mm_addEc ev59 q43 mm_k1 (by decide) (k := 1) (by decide)
                          refine va_put (D := G) (ci := 12) (v := .int v59) (ty := tyX12 7) (C := RX12) (T := TX12) (N := 38) hx hb hts (mm_i inlX12) tyX12 tyX12_ok nmX12 hown hK.1 hP hD hS 0 rfl rfl 7 (by decide) (mm_h hts mm_w450) (fun _ h9 => h9) rfl (tyX12_ok 7 (by decide)) rfl rfl (Nat.le_of_ble_eq_true rfl) dX12_next_304 ?_
                          clear hP hD hS
                          clear H locs
                          intro H locs (hP : va_P G vwCl [(a_0, .inr (12, [.int i_0, .ref a_1, .ref a_2, .ref a_3, .ref a_4, .ref a_5, .int i_1, .int v59, .int 3, .int y0_0_7_29, .int 0, .long 0, .int i_6, .int i_7, .int i_8, .int i_9, .ref a_6, .ref a_7, .ref a_8, .ref a_9, .ref a_10, .ref a_11, .ref a_12, .ref a_13, .ref a_14, .ref a_15, .ref a_16, .ref a_17, .ref a_18, .int i_10, .int i_11, .int i_12, .int i_13, .int i_14, .int i_15, .ref a_19, .int i_16, .ref a_20])), (a_5, .inl (cy 0, 600, .inl f_0))] H) (hD : va_D A [(a_0, .inr (12, [.int i_0, .ref a_1, .ref a_2, .ref a_3, .ref a_4, .ref a_5, .int i_1, .int v59, .int 3, .int y0_0_7_29, .int 0, .long 0, .int i_6, .int i_7, .int i_8, .int i_9, .ref a_6, .ref a_7, .ref a_8, .ref a_9, .ref a_10, .ref a_11, .ref a_12, .ref a_13, .ref a_14, .ref a_15, .ref a_16, .ref a_17, .ref a_18, .int i_10, .int i_11, .int i_12, .int i_13, .int i_14, .int i_15, .ref a_19, .int i_16, .ref a_20])), (a_5, .inl (cy 0, 600, .inl f_0))]) hS
                          have w60 : (y0_0_7_29 : Int32).toInt ≤ (v59 : Int32).toInt := (by have := tv59; omega)
                          have w61 : (v59 : Int32).toInt ≤ (i_1 : Int32).toInt := (by have := tv59; have := w42; omega)
                          have w62 : mm_tk 3 y0_0_7_29 v59 := (Or.inr (by have := tv59; omega))
                          subst hAe
                          rw [hQ]
                          exact W.vret hx hb hr (fun t ht hW => ⟨⟨(v59, 3, y0_0_7_29, 0, 0), rfl, ⟨(mm_wk rv59 (by decide)), (mm_wk mm_k3 (by decide)), (mm_wk q43 (by decide)), w60, w61, w62, w31⟩, by rw [ht]; exact hP, hK.warm hW, hD⟩, hS.F ht⟩) hS.2.2 dX12_next_307
                      · exact absurd rfl (mm_ne c51)
                    · refine lv_if_eq (tgt := 274) hx hb dX12_next_200 (by decide) (fun c63 => ?_) (fun c63 => ?_)
                      · exact mm_eqN c63.symm mm_k0 mm_k1 (by decide)
                      · refine lv_aload_n hx hb dX12_next_203 rfl (lv_at hl 0 rfl) ?_
                        refine lv_iconst (v := 2) hx hb dX12_next_204 (by decide) ?_
                        refine va_put (D := G) (ci := 12) (v := .int 2) (ty := tyX12 8) (C := RX12) (T := TX12) (N := 38) hx hb hts (mm_i inlX12) tyX12 tyX12_ok nmX12 hown hK.1 hP hD hS 0 rfl rfl 8 (by decide) (mm_h hts mm_w432) (fun _ h9 => h9) rfl (tyX12_ok 8 (by decide)) rfl rfl (Nat.le_of_ble_eq_true rfl) dX12_next_205 ?_
                        clear hP hD hS
                        clear H locs
                        intro H locs (hP : va_P G vwCl [(a_0, .inr (12, [.int i_0, .ref a_1, .ref a_2, .ref a_3, .ref a_4, .ref a_5, .int i_1, .int y0_0_7_29, .int 2, .int y0_0_7_29, .int 0, .long 0, .int i_6, .int i_7, .int i_8, .int i_9, .ref a_6, .ref a_7, .ref a_8, .ref a_9, .ref a_10, .ref a_11, .ref a_12, .ref a_13, .ref a_14, .ref a_15, .ref a_16, .ref a_17, .ref a_18, .int i_10, .int i_11, .int i_12, .int i_13, .int i_14, .int i_15, .ref a_19, .int i_16, .ref a_20])), (a_5, .inl (cy 0, 600, .inl f_0))] H) (hD : va_D A [(a_0, .inr (12, [.int i_0, .ref a_1, .ref a_2, .ref a_3, .ref a_4, .ref a_5, .int i_1, .int y0_0_7_29, .int 2, .int y0_0_7_29, .int 0, .long 0, .int i_6, .int i_7, .int i_8, .int i_9, .ref a_6, .ref a_7, .ref a_8, .ref a_9, .ref a_10, .ref a_11, .ref a_12, .ref a_13, .ref a_14, .ref a_15, .ref a_16, .ref a_17, .ref a_18, .int i_10, .int i_11, .int i_12, .int i_13, .int i_14, .int i_15, .ref a_19, .int i_16, .ref a_20])), (a_5, .inl (cy 0, 600, .inl f_0))]) hS
                        have L208_115 : ∀ (n : Nat) (y208_0_7_112 : Int32) (y208_0_10_113 : Int32), mm_rg y208_0_7_112 0 600 → (y208_0_7_112 : Int32).toInt ≤ (i_1 : Int32).toInt → (y0_0_7_29 : Int32).toInt ≤ (y208_0_7_112 : Int32).toInt → (600 - y208_0_7_112.toInt).toNat < n → ∀ (H : Heap) (locs : List Loc), va_P G vwCl [(a_0, .inr (12, [.int i_0, .ref a_1, .ref a_2, .ref a_3, .ref a_4, .ref a_5, .int i_1, .int y208_0_7_112, .int 2, .int y0_0_7_29, .int y208_0_10_113, .long 0, .int i_6, .int i_7, .int i_8, .int i_9, .ref a_6, .ref a_7, .ref a_8, .ref a_9, .ref a_10, .ref a_11, .ref a_12, .ref a_13, .ref a_14, .ref a_15, .ref a_16, .ref a_17, .ref a_18, .int i_10, .int i_11, .int i_12, .int i_13, .int i_14, .int i_15, .ref a_19, .int i_16, .ref a_20])), (a_5, .inl (cy 0, 600, .inl f_0))] H → va_D A [(a_0, .inr (12, [.int i_0, .ref a_1, .ref a_2, .ref a_3, .ref a_4, .ref a_5, .int i_1, .int y208_0_7_112, .int 2, .int y0_0_7_29, .int y208_0_10_113, .long 0, .int i_6, .int i_7, .int i_8, .int i_9, .ref a_6, .ref a_7, .ref a_8, .ref a_9, .ref a_10, .ref a_11, .ref a_12, .ref a_13, .ref a_14, .ref a_15, .ref a_16, .ref a_17, .ref a_18, .int i_10, .int i_11, .int i_12, .int i_13, .int i_14, .int i_15, .ref a_19, .int i_16, .ref a_20])), (a_5, .inl (cy 0, 600, .inl f_0))] → va_S A s.heap H locs → ∀ (ls : Array Slot), lv_has ls 2 [(0, .ref a_0)] → W p l e R s m args below meth c H locs 0 0 Q (F0 m 208 ls []) := by
                          intro n
                          induction n with
                          | zero => intro y208_0_7_112 y208_0_10_113 ry208_0_7_112 w114 w115 hm; exact absurd hm (Nat.not_lt_zero _)
                          | succ n ih208 =>
                            intro y208_0_7_112 y208_0_10_113 ry208_0_7_112 w114 w115 hm208 H locs hP hD hS ls hl
                            refine lv_aload_n hx hb dX12_next_208 rfl (lv_at hl 0 rfl) ?_
                            refine lv_aload_n hx hb dX12_next_209 rfl (lv_at hl 0 rfl) ?_
                            refine va_get (D := G) (ci := 12) (v := .int y208_0_7_112) (C := RX12) (T := TX12) (N := 38) hx hb hts (mm_i inlX12) hown hK.1 hP 0 rfl rfl 7 (by decide) (mm_h hts mm_w450) (fun _ h9 => h9) rfl dX12_next_210 ?_
                            refine lv_bipush (v := 48) hx hb dX12_next_213 (by decide) ?_
                            refine lv_bipush (v := 57) hx hb dX12_next_215 (by decide) ?_
                            refine mm_finir (va_runV (As := [.int y208_0_7_112, .int 48, .int 57]) (rest := []) ⟨hx, hb, hml, hown, hts⟩ (M20_X12_isByte l G cy H.size a_0 y208_0_7_112 i_0 a_1 a_2 a_3 a_4 a_5 i_1 y208_0_7_112 2 y0_0_7_29 y208_0_10_113 0 i_6 i_7 i_8 i_9 a_6 a_7 a_8 a_9 a_10 a_11 a_12 a_13 a_14 a_15 a_16 a_17 a_18 i_10 i_11 i_12 i_13 i_14 i_15 a_19 i_16 a_20 f_0 ry208_0_7_112 (mm_wk q44 (by decide)) h4) (cwV 3 hts (mm_gV mm_w463 mm_w464 mm_w465 mm_w5 mm_w466) rfl rfl rfl hd_X12_isByte ⟨by rw [hRf]; exact Nat.le_of_ble_eq_true rfl, by rw [hRl]; exact Nat.le_of_ble_eq_true rfl⟩) (mm_preV hK hZ hS hA hP hD [0, 1] rfl rfl 0 rfl rfl rfl) rfl rfl hl.1 rfl (lv_room (Nat.le_of_ble_eq_true rfl)) dX12_next_217 ⟨by rw [hRc]; exact Nat.le_of_ble_eq_true rfl, by rw [hRs]; exact Nat.le_of_ble_eq_true rfl⟩) hP hD hS hA [0, 1] rfl (fun _ => rfl) ?_
                            clear hP hD hS
                            clear H locs
                            intro v117 _u H locs hw hP hD hS
                            rcases hw with rfl | ⟨rfl, w118, w119⟩
                            · refine lv_if_eq (tgt := 307) hx hb dX12_next_220 (by decide) (fun c120 => ?_) (fun c120 => ?_)
                              · have w121 : mm_tk 2 y0_0_7_29 y208_0_7_112 := (mm_tk1 mm_k2 (by decide))
                                subst hAe
                                rw [hQ]
                                exact W.vret hx hb hr (fun t ht hW => ⟨⟨(y208_0_7_112, 2, y0_0_7_29, y208_0_10_113, 0), rfl, ⟨ry208_0_7_112, (mm_wk mm_k2 (by decide)), (mm_wk q43 (by decide)), w115, w114, w121, w31⟩, by rw [ht]; exact hP, hK.warm hW, hD⟩, hS.F ht⟩) hS.2.2 dX12_next_307
                              · exact absurd rfl (mm_ne c120)
                            · refine lv_if_eq (tgt := 307) hx hb dX12_next_220 (by decide) (fun c122 => ?_) (fun c122 => ?_)
                              · exact mm_eqN c122.symm mm_k0 mm_k1 (by decide)
                              · refine lv_aload_n hx hb dX12_next_223 rfl (lv_at hl 0 rfl) ?_
                                refine lv_aload_n hx hb dX12_next_224 rfl (lv_at hl 0 rfl) ?_
                                refine va_get (D := G) (ci := 12) (v := .int y208_0_10_113) (C := RX12) (T := TX12) (N := 38) hx hb hts (mm_i inlX12) hown hK.1 hP 0 rfl rfl 10 (by decide) (mm_h hts mm_w456) (fun _ h9 => h9) rfl dX12_next_225 ?_
                                refine lv_ldc (v := 100000) hx hb hown (mm_h hts mm_w461) dX12_next_228 ?_
                                refine lv_icmp_le (tgt := 238) hx hb dX12_next_230 (by decide) (fun c123 => ?_) (fun c123 => ?_)
                                · have q124 := mm_leL (mm_le c123) (mm_top y208_0_10_113) mm_k100000
                                  refine lv_bipush (v := 10) hx hb dX12_next_238 (by decide) ?_
                                  refine lv_aload_n hx hb dX12_next_240 rfl (lv_at hl 0 rfl) ?_
                                  refine va_get (D := G) (ci := 12) (v := .int y208_0_10_113) (C := RX12) (T := TX12) (N := 38) hx hb hts (mm_i inlX12) hown hK.1 hP 0 rfl rfl 10 (by decide) (mm_h hts mm_w456) (fun _ h9 => h9) rfl dX12_next_241 ?_
                                  refine lv_imul hx hb dX12_next_244 ?_
                                  refine lv_topi (fun v125 ev125 => ?_)
                                  refine lv_aload_n hx hb dX12_next_245 rfl (lv_at hl 0 rfl) ?_
                                  refine va_get (D := G) (ci := 12) (v := .ref a_5) (C := RX12) (T := TX12) (N := 38) hx hb hts (mm_i inlX12) hown hK.1 hP 0 rfl rfl 5 (by decide) (mm_h hts mm_w146) (fun _ h9 => h9) rfl dX12_next_246 ?_
                                  refine lv_aload_n hx hb dX12_next_249 rfl (lv_at hl 0 rfl) ?_
                                  refine va_get (D := G) (ci := 12) (v := .int y208_0_7_112) (C := RX12) (T := TX12) (N := 38) hx hb hts (mm_i inlX12) hown hK.1 hP 0 rfl rfl 7 (by decide) (mm_h hts mm_w450) (fun _ h9 => h9) rfl dX12_next_250 ?_
                                  refine va_bald hx hb hK.1 hP 1 0 rfl rfl (mm_in w118 (by decide)) dX12_next_253 ?_
                                  refine lv_topi (fun v126 ev126 => ?_)
                                  have rv126 : mm_rg v126 (-128) 127 := mm_eqv ev126 (h4 _)
                                  refine lv_iadd hx hb dX12_next_254 ?_
                                  refine lv_topi (fun v127 ev127 => ?_)
                                  refine lv_bipush (v := 48) hx hb dX12_next_255 (by decide) ?_
                                  refine lv_isub hx hb dX12_next_257 ?_
                                  refine lv_topi (fun v128 ev128 => ?_)
                                  refine va_put (D := G) (ci := 12) (v := .int v128) (ty := tyX12 10) (C := RX12) (T := TX12) (N := 38) hx hb hts (mm_i inlX12) tyX12 tyX12_ok nmX12 hown hK.1 hP hD hS 0 rfl rfl 10 (by decide) (mm_h hts mm_w456) (fun _ h9 => h9) rfl (tyX12_ok 10 (by decide)) rfl rfl (Nat.le_of_ble_eq_true rfl) dX12_next_258 ?_
                                  clear hP hD hS
                                  clear H locs
                                  intro H locs (hP : va_P G vwCl [(a_0, .inr (12, [.int i_0, .ref a_1, .ref a_2, .ref a_3, .ref a_4, .ref a_5, .int i_1, .int y208_0_7_112, .int 2, .int y0_0_7_29, .int v128, .long 0, .int i_6, .int i_7, .int i_8, .int i_9, .ref a_6, .ref a_7, .ref a_8, .ref a_9, .ref a_10, .ref a_11, .ref a_12, .ref a_13, .ref a_14, .ref a_15, .ref a_16, .ref a_17, .ref a_18, .int i_10, .int i_11, .int i_12, .int i_13, .int i_14, .int i_15, .ref a_19, .int i_16, .ref a_20])), (a_5, .inl (cy 0, 600, .inl f_0))] H) (hD : va_D A [(a_0, .inr (12, [.int i_0, .ref a_1, .ref a_2, .ref a_3, .ref a_4, .ref a_5, .int i_1, .int y208_0_7_112, .int 2, .int y0_0_7_29, .int v128, .long 0, .int i_6, .int i_7, .int i_8, .int i_9, .ref a_6, .ref a_7, .ref a_8, .ref a_9, .ref a_10, .ref a_11, .ref a_12, .ref a_13, .ref a_14, .ref a_15, .ref a_16, .ref a_17, .ref a_18, .int i_10, .int i_11, .int i_12, .int i_13, .int i_14, .int i_15, .ref a_19, .int i_16, .ref a_20])), (a_5, .inl (cy 0, 600, .inl f_0))]) hS
                                  refine lv_aload_n hx hb dX12_next_261 rfl (lv_at hl 0 rfl) ?_
                                  refine lv_dup hx hb dX12_next_262 rfl ?_
                                  refine va_get (D := G) (ci := 12) (v := .int y208_0_7_112) (C := RX12) (T := TX12) (N := 38) hx hb hts (mm_i inlX12) hown hK.1 hP 0 rfl rfl 7 (by decide) (mm_h hts mm_w450) (fun _ h9 => h9) rfl dX12_next_263 ?_
                                  refine lv_iconst (v := 1) hx hb dX12_next_266 (by decide) ?_
                                  refine lv_iadd hx hb dX12_next_267 ?_
                                  refine lv_topi (fun v129 ev129 => ?_)
                                  have rv129 : mm_rg v129 1 600 := mm_add ev129 w118 mm_k1 (by decide) (by decide)
                                  have tv129 := mm_addEc ev129 w118 mm_k1 (by decide) (k := 1) (by decide)
                                  refine va_put (D := G) (ci := 12) (v := .int v129) (ty := tyX12 7) (C := RX12) (T := TX12) (N := 38) hx hb hts (mm_i inlX12) tyX12 tyX12_ok nmX12 hown hK.1 hP hD hS 0 rfl rfl 7 (by decide) (mm_h hts mm_w450) (fun _ h9 => h9) rfl (tyX12_ok 7 (by decide)) rfl rfl (Nat.le_of_ble_eq_true rfl) dX12_next_268 ?_
                                  clear hP hD hS
                                  clear H locs
                                  intro H locs (hP : va_P G vwCl [(a_0, .inr (12, [.int i_0, .ref a_1, .ref a_2, .ref a_3, .ref a_4, .ref a_5, .int i_1, .int v129, .int 2, .int y0_0_7_29, .int v128, .long 0, .int i_6, .int i_7, .int i_8, .int i_9, .ref a_6, .ref a_7, .ref a_8, .ref a_9, .ref a_10, .ref a_11, .ref a_12, .ref a_13, .ref a_14, .ref a_15, .ref a_16, .ref a_17, .ref a_18, .int i_10, .int i_11, .int i_12, .int i_13, .int i_14, .int i_15, .ref a_19, .int i_16, .ref a_20])), (a_5, .inl (cy 0, 600, .inl f_0))] H) (hD : va_D A [(a_0, .inr (12, [.int i_0, .ref a_1, .ref a_2, .ref a_3, .ref a_4, .ref a_5, .int i_1, .int v129, .int 2, .int y0_0_7_29, .int v128, .long 0, .int i_6, .int i_7, .int i_8, .int i_9, .ref a_6, .ref a_7, .ref a_8, .ref a_9, .ref a_10, .ref a_11, .ref a_12, .ref a_13, .ref a_14, .ref a_15, .ref a_16, .ref a_17, .ref a_18, .int i_10, .int i_11, .int i_12, .int i_13, .int i_14, .int i_15, .ref a_19, .int i_16, .ref a_20])), (a_5, .inl (cy 0, 600, .inl f_0))]) hS
                                  refine lv_goto (tgt := 208) hx hb dX12_next_271 (by decide) ?_
                                  exact ih208 v129 v128 (mm_wk rv129 (by decide)) (by have := tv129; have := w119; omega) (by have := tv129; have := w115; omega) (mm_mu hm208 tv129 (by decide) (rv129).2 (by decide)) H locs hP hD hS ls (lv_sub hl [0] rfl)
                                · have q130 := mm_ltR (lo := 100001) (mm_nle c123) mm_k100000 (mm_top y208_0_10_113) (by decide)
                                  refine lv_ldc (v := 1000000) hx hb hown (mm_h hts mm_w462) dX12_next_233 ?_
                                  refine lv_goto (tgt := 258) hx hb dX12_next_235 (by decide) ?_
                                  refine va_put (D := G) (ci := 12) (v := .int 1000000) (ty := tyX12 10) (C := RX12) (T := TX12) (N := 38) hx hb hts (mm_i inlX12) tyX12 tyX12_ok nmX12 hown hK.1 hP hD hS 0 rfl rfl 10 (by decide) (mm_h hts mm_w456) (fun _ h9 => h9) rfl (tyX12_ok 10 (by decide)) rfl rfl (Nat.le_of_ble_eq_true rfl) dX12_next_258 ?_
                                  clear hP hD hS
                                  clear H locs
                                  intro H locs (hP : va_P G vwCl [(a_0, .inr (12, [.int i_0, .ref a_1, .ref a_2, .ref a_3, .ref a_4, .ref a_5, .int i_1, .int y208_0_7_112, .int 2, .int y0_0_7_29, .int 1000000, .long 0, .int i_6, .int i_7, .int i_8, .int i_9, .ref a_6, .ref a_7, .ref a_8, .ref a_9, .ref a_10, .ref a_11, .ref a_12, .ref a_13, .ref a_14, .ref a_15, .ref a_16, .ref a_17, .ref a_18, .int i_10, .int i_11, .int i_12, .int i_13, .int i_14, .int i_15, .ref a_19, .int i_16, .ref a_20])), (a_5, .inl (cy 0, 600, .inl f_0))] H) (hD : va_D A [(a_0, .inr (12, [.int i_0, .ref a_1, .ref a_2, .ref a_3, .ref a_4, .ref a_5, .int i_1, .int y208_0_7_112, .int 2, .int y0_0_7_29, .int 1000000, .long 0, .int i_6, .int i_7, .int i_8, .int i_9, .ref a_6, .ref a_7, .ref a_8, .ref a_9, .ref a_10, .ref a_11, .ref a_12, .ref a_13, .ref a_14, .ref a_15, .ref a_16, .ref a_17, .ref a_18, .int i_10, .int i_11, .int i_12, .int i_13, .int i_14, .int i_15, .ref a_19, .int i_16, .ref a_20])), (a_5, .inl (cy 0, 600, .inl f_0))]) hS
                                  refine lv_aload_n hx hb dX12_next_261 rfl (lv_at hl 0 rfl) ?_
                                  refine lv_dup hx hb dX12_next_262 rfl ?_
                                  refine va_get (D := G) (ci := 12) (v := .int y208_0_7_112) (C := RX12) (T := TX12) (N := 38) hx hb hts (mm_i inlX12) hown hK.1 hP 0 rfl rfl 7 (by decide) (mm_h hts mm_w450) (fun _ h9 => h9) rfl dX12_next_263 ?_
                                  refine lv_iconst (v := 1) hx hb dX12_next_266 (by decide) ?_
                                  refine lv_iadd hx hb dX12_next_267 ?_
                                  refine lv_topi (fun v131 ev131 => ?_)
                                  have rv131 : mm_rg v131 1 600 := mm_add ev131 w118 mm_k1 (by decide) (by decide)
                                  have tv131 := mm_addEc ev131 w118 mm_k1 (by decide) (k := 1) (by decide)
                                  refine va_put (D := G) (ci := 12) (v := .int v131) (ty := tyX12 7) (C := RX12) (T := TX12) (N := 38) hx hb hts (mm_i inlX12) tyX12 tyX12_ok nmX12 hown hK.1 hP hD hS 0 rfl rfl 7 (by decide) (mm_h hts mm_w450) (fun _ h9 => h9) rfl (tyX12_ok 7 (by decide)) rfl rfl (Nat.le_of_ble_eq_true rfl) dX12_next_268 ?_
                                  clear hP hD hS
                                  clear H locs
                                  intro H locs (hP : va_P G vwCl [(a_0, .inr (12, [.int i_0, .ref a_1, .ref a_2, .ref a_3, .ref a_4, .ref a_5, .int i_1, .int v131, .int 2, .int y0_0_7_29, .int 1000000, .long 0, .int i_6, .int i_7, .int i_8, .int i_9, .ref a_6, .ref a_7, .ref a_8, .ref a_9, .ref a_10, .ref a_11, .ref a_12, .ref a_13, .ref a_14, .ref a_15, .ref a_16, .ref a_17, .ref a_18, .int i_10, .int i_11, .int i_12, .int i_13, .int i_14, .int i_15, .ref a_19, .int i_16, .ref a_20])), (a_5, .inl (cy 0, 600, .inl f_0))] H) (hD : va_D A [(a_0, .inr (12, [.int i_0, .ref a_1, .ref a_2, .ref a_3, .ref a_4, .ref a_5, .int i_1, .int v131, .int 2, .int y0_0_7_29, .int 1000000, .long 0, .int i_6, .int i_7, .int i_8, .int i_9, .ref a_6, .ref a_7, .ref a_8, .ref a_9, .ref a_10, .ref a_11, .ref a_12, .ref a_13, .ref a_14, .ref a_15, .ref a_16, .ref a_17, .ref a_18, .int i_10, .int i_11, .int i_12, .int i_13, .int i_14, .int i_15, .ref a_19, .int i_16, .ref a_20])), (a_5, .inl (cy 0, 600, .inl f_0))]) hS
                                  refine lv_goto (tgt := 208) hx hb dX12_next_271 (by decide) ?_
                                  exact ih208 v131 1000000 (mm_wk rv131 (by decide)) (by have := tv131; have := w119; omega) (by have := tv131; have := w115; omega) (mm_mu hm208 tv131 (by decide) (rv131).2 (by decide)) H locs hP hD hS ls (lv_sub hl [0] rfl)
                        exact L208_115 _ y0_0_7_29 0 (mm_wk q43 (by decide)) w30 (Int.le_refl _) (Nat.lt_succ_self _) H locs hP hD hS ls (lv_sub hl [0] rfl)
                  · exact absurd rfl (mm_ne c48)
                · refine lv_if_eq (tgt := 188) hx hb dX12_next_92 (by decide) (fun c132 => ?_) (fun c132 => ?_)
                  · exact mm_eqN c132.symm mm_k0 mm_k1 (by decide)
                  · refine lv_aload_n hx hb dX12_next_95 rfl (lv_at hl 0 rfl) ?_
                    refine lv_iconst (v := 1) hx hb dX12_next_96 (by decide) ?_
                    refine va_put (D := G) (ci := 12) (v := .int 1) (ty := tyX12 8) (C := RX12) (T := TX12) (N := 38) hx hb hts (mm_i inlX12) tyX12 tyX12_ok nmX12 hown hK.1 hP hD hS 0 rfl rfl 8 (by decide) (mm_h hts mm_w432) (fun _ h9 => h9) rfl (tyX12_ok 8 (by decide)) rfl rfl (Nat.le_of_ble_eq_true rfl) dX12_next_97 ?_
                    clear hP hD hS
                    clear H locs
                    intro H locs (hP : va_P G vwCl [(a_0, .inr (12, [.int i_0, .ref a_1, .ref a_2, .ref a_3, .ref a_4, .ref a_5, .int i_1, .int y0_0_7_29, .int 1, .int y0_0_7_29, .int 0, .long 0, .int i_6, .int i_7, .int i_8, .int i_9, .ref a_6, .ref a_7, .ref a_8, .ref a_9, .ref a_10, .ref a_11, .ref a_12, .ref a_13, .ref a_14, .ref a_15, .ref a_16, .ref a_17, .ref a_18, .int i_10, .int i_11, .int i_12, .int i_13, .int i_14, .int i_15, .ref a_19, .int i_16, .ref a_20])), (a_5, .inl (cy 0, 600, .inl f_0))] H) (hD : va_D A [(a_0, .inr (12, [.int i_0, .ref a_1, .ref a_2, .ref a_3, .ref a_4, .ref a_5, .int i_1, .int y0_0_7_29, .int 1, .int y0_0_7_29, .int 0, .long 0, .int i_6, .int i_7, .int i_8, .int i_9, .ref a_6, .ref a_7, .ref a_8, .ref a_9, .ref a_10, .ref a_11, .ref a_12, .ref a_13, .ref a_14, .ref a_15, .ref a_16, .ref a_17, .ref a_18, .int i_10, .int i_11, .int i_12, .int i_13, .int i_14, .int i_15, .ref a_19, .int i_16, .ref a_20])), (a_5, .inl (cy 0, 600, .inl f_0))]) hS
                    refine lv_iconst (v := 0) hx hb dX12_next_100 (by decide) ?_
                    refine lv_istore_n (lv' := [(1, .int 0), (0, .ref a_0)]) hx hb dX12_next_101 rfl hl (by decide) rfl ?_
                    clear hl
                    clear ls
                    intro ls hl
                    have L102_557 : ∀ (n : Nat) (x102_1_553 : Int32) (y102_0_7_554 : Int32) (y102_0_11_555 : Int64), mm_rg y102_0_7_554 0 600 → (y102_0_7_554 : Int32).toInt ≤ (i_1 : Int32).toInt → (y0_0_7_29 : Int32).toInt ≤ (y102_0_7_554 : Int32).toInt → (600 - y102_0_7_554.toInt).toNat < n → ∀ (H : Heap) (locs : List Loc), va_P G vwCl [(a_0, .inr (12, [.int i_0, .ref a_1, .ref a_2, .ref a_3, .ref a_4, .ref a_5, .int i_1, .int y102_0_7_554, .int 1, .int y0_0_7_29, .int 0, .long y102_0_11_555, .int i_6, .int i_7, .int i_8, .int i_9, .ref a_6, .ref a_7, .ref a_8, .ref a_9, .ref a_10, .ref a_11, .ref a_12, .ref a_13, .ref a_14, .ref a_15, .ref a_16, .ref a_17, .ref a_18, .int i_10, .int i_11, .int i_12, .int i_13, .int i_14, .int i_15, .ref a_19, .int i_16, .ref a_20])), (a_5, .inl (cy 0, 600, .inl f_0))] H → va_D A [(a_0, .inr (12, [.int i_0, .ref a_1, .ref a_2, .ref a_3, .ref a_4, .ref a_5, .int i_1, .int y102_0_7_554, .int 1, .int y0_0_7_29, .int 0, .long y102_0_11_555, .int i_6, .int i_7, .int i_8, .int i_9, .ref a_6, .ref a_7, .ref a_8, .ref a_9, .ref a_10, .ref a_11, .ref a_12, .ref a_13, .ref a_14, .ref a_15, .ref a_16, .ref a_17, .ref a_18, .int i_10, .int i_11, .int i_12, .int i_13, .int i_14, .int i_15, .ref a_19, .int i_16, .ref a_20])), (a_5, .inl (cy 0, 600, .inl f_0))] → va_S A s.heap H locs → ∀ (ls : Array Slot), lv_has ls 2 [(1, .int x102_1_553), (0, .ref a_0)] → W p l e R s m args below meth c H locs 0 0 Q (F0 m 102 ls []) := by
                      intro n
                      induction n with
                      | zero => intro x102_1_553 y102_0_7_554 y102_0_11_555 ry102_0_7_554 w556 w557 hm; exact absurd hm (Nat.not_lt_zero _)
                      | succ n ih102 =>
                        intro x102_1_553 y102_0_7_554 y102_0_11_555 ry102_0_7_554 w556 w557 hm102 H locs hP hD hS ls hl
                        refine lv_aload_n hx hb dX12_next_102 rfl (lv_at hl 1 rfl) ?_
                        refine lv_aload_n hx hb dX12_next_103 rfl (lv_at hl 1 rfl) ?_
                        refine va_get (D := G) (ci := 12) (v := .int y102_0_7_554) (C := RX12) (T := TX12) (N := 38) hx hb hts (mm_i inlX12) hown hK.1 hP 0 rfl rfl 7 (by decide) (mm_h hts mm_w450) (fun _ h9 => h9) rfl dX12_next_104 ?_
                        refine lv_bipush (v := 97) hx hb dX12_next_107 (by decide) ?_
                        refine lv_bipush (v := 122) hx hb dX12_next_109 (by decide) ?_
                        refine mm_finir (va_runV (As := [.int y102_0_7_554, .int 97, .int 122]) (rest := []) ⟨hx, hb, hml, hown, hts⟩ (M21_X12_isByte l G cy H.size a_0 y102_0_7_554 i_0 a_1 a_2 a_3 a_4 a_5 i_1 y102_0_7_554 1 y0_0_7_29 0 y102_0_11_555 i_6 i_7 i_8 i_9 a_6 a_7 a_8 a_9 a_10 a_11 a_12 a_13 a_14 a_15 a_16 a_17 a_18 i_10 i_11 i_12 i_13 i_14 i_15 a_19 i_16 a_20 f_0 ry102_0_7_554 (mm_wk q44 (by decide)) h4) (cwV 3 hts (mm_gV mm_w463 mm_w464 mm_w465 mm_w5 mm_w466) rfl rfl rfl hd_X12_isByte ⟨by rw [hRf]; exact Nat.le_of_ble_eq_true rfl, by rw [hRl]; exact Nat.le_of_ble_eq_true rfl⟩) (mm_preV hK hZ hS hA hP hD [0, 1] rfl rfl 0 rfl rfl rfl) rfl rfl hl.1 rfl (lv_room (Nat.le_of_ble_eq_true rfl)) dX12_next_111 ⟨by rw [hRc]; exact Nat.le_of_ble_eq_true rfl, by rw [hRs]; exact Nat.le_of_ble_eq_true rfl⟩) hP hD hS hA [0, 1] rfl (fun _ => rfl) ?_
                        clear hP hD hS
                        clear H locs
                        intro v559 _u H locs hw hP hD hS
                        rcases hw with rfl | ⟨rfl, w560, w561⟩
                        · refine lv_if_eq (tgt := 185) hx hb dX12_next_114 (by decide) (fun c562 => ?_) (fun c562 => ?_)
                          · refine lv_goto (tgt := 307) hx hb dX12_next_185 (by decide) ?_
                            have w563 : mm_tk 1 y0_0_7_29 y102_0_7_554 := (mm_tk1 mm_k1 (by decide))
                            subst hAe
                            rw [hQ]
                            exact W.vret hx hb hr (fun t ht hW => ⟨⟨(y102_0_7_554, 1, y0_0_7_29, 0, y102_0_11_555), rfl, ⟨ry102_0_7_554, (mm_wk mm_k1 (by decide)), (mm_wk q43 (by decide)), w557, w556, w563, w31⟩, by rw [ht]; exact hP, hK.warm hW, hD⟩, hS.F ht⟩) hS.2.2 dX12_next_307
                          · exact absurd rfl (mm_ne c562)
                        · refine lv_if_eq (tgt := 185) hx hb dX12_next_114 (by decide) (fun c564 => ?_) (fun c564 => ?_)
                          · exact mm_eqN c564.symm mm_k0 mm_k1 (by decide)
                          · refine lv_aload_n hx hb dX12_next_117 rfl (lv_at hl 1 rfl) ?_
                            refine lv_iload_n hx hb dX12_next_118 rfl (lv_at hl 0 rfl) ?_
                            refine lv_bipush (v := 11) hx hb dX12_next_119 (by decide) ?_
                            refine lv_icmp_le (tgt := 130) hx hb dX12_next_121 (by decide) (fun c565 => ?_) (fun c565 => ?_)
                            · have q566 := mm_leL (mm_le c565) (mm_top x102_1_553) mm_k11
                              refine lv_ldc2 (v := 27) hx hb hown (mm_h hts mm_w459) dX12_next_130 ?_
                              refine lv_aload_n hx hb dX12_next_133 rfl (lv_at hl 1 rfl) ?_
                              refine va_get (D := G) (ci := 12) (v := .long y102_0_11_555) (C := RX12) (T := TX12) (N := 38) hx hb hts (mm_i inlX12) hown hK.1 hP 0 rfl rfl 11 (by decide) (mm_h hts mm_w457) (fun _ h9 => h9) rfl dX12_next_134 ?_
                              refine lv_lmul hx hb dX12_next_137 ?_
                              refine lv_topl (fun v567 ev567 => ?_)
                              refine lv_aload_n hx hb dX12_next_138 rfl (lv_at hl 1 rfl) ?_
                              refine va_get (D := G) (ci := 12) (v := .ref a_5) (C := RX12) (T := TX12) (N := 38) hx hb hts (mm_i inlX12) hown hK.1 hP 0 rfl rfl 5 (by decide) (mm_h hts mm_w146) (fun _ h9 => h9) rfl dX12_next_139 ?_
                              refine lv_aload_n hx hb dX12_next_142 rfl (lv_at hl 1 rfl) ?_
                              refine va_get (D := G) (ci := 12) (v := .int y102_0_7_554) (C := RX12) (T := TX12) (N := 38) hx hb hts (mm_i inlX12) hown hK.1 hP 0 rfl rfl 7 (by decide) (mm_h hts mm_w450) (fun _ h9 => h9) rfl dX12_next_143 ?_
                              refine va_bald hx hb hK.1 hP 1 0 rfl rfl (mm_in w560 (by decide)) dX12_next_146 ?_
                              refine lv_topi (fun v568 ev568 => ?_)
                              have rv568 : mm_rg v568 (-128) 127 := mm_eqv ev568 (h4 _)
                              obtain ⟨v569, ev569⟩ : ∃ y : Int64, y = v568.toInt64 := ⟨_, rfl⟩
                              refine lv_i2l hx hb dX12_next_147 ev569.symm ?_
                              have rv569 : mm_rl v569 (-128) 127 := mm_i2l ev569 rv568
                              refine lv_ladd hx hb dX12_next_148 ?_
                              refine lv_topl (fun v570 ev570 => ?_)
                              refine lv_ldc2 (v := 96) hx hb hown (mm_h hts mm_w460) dX12_next_149 ?_
                              refine lv_lsub hx hb dX12_next_152 ?_
                              refine lv_topl (fun v571 ev571 => ?_)
                              refine va_put (D := G) (ci := 12) (v := .long v571) (ty := tyX12 11) (C := RX12) (T := TX12) (N := 38) hx hb hts (mm_i inlX12) tyX12 tyX12_ok nmX12 hown hK.1 hP hD hS 0 rfl rfl 11 (by decide) (mm_h hts mm_w457) (fun _ h9 => h9) rfl (tyX12_ok 11 (by decide)) rfl rfl (Nat.le_of_ble_eq_true rfl) dX12_next_153 ?_
                              clear hP hD hS
                              clear H locs
                              intro H locs (hP : va_P G vwCl [(a_0, .inr (12, [.int i_0, .ref a_1, .ref a_2, .ref a_3, .ref a_4, .ref a_5, .int i_1, .int y102_0_7_554, .int 1, .int y0_0_7_29, .int 0, .long v571, .int i_6, .int i_7, .int i_8, .int i_9, .ref a_6, .ref a_7, .ref a_8, .ref a_9, .ref a_10, .ref a_11, .ref a_12, .ref a_13, .ref a_14, .ref a_15, .ref a_16, .ref a_17, .ref a_18, .int i_10, .int i_11, .int i_12, .int i_13, .int i_14, .int i_15, .ref a_19, .int i_16, .ref a_20])), (a_5, .inl (cy 0, 600, .inl f_0))] H) (hD : va_D A [(a_0, .inr (12, [.int i_0, .ref a_1, .ref a_2, .ref a_3, .ref a_4, .ref a_5, .int i_1, .int y102_0_7_554, .int 1, .int y0_0_7_29, .int 0, .long v571, .int i_6, .int i_7, .int i_8, .int i_9, .ref a_6, .ref a_7, .ref a_8, .ref a_9, .ref a_10, .ref a_11, .ref a_12, .ref a_13, .ref a_14, .ref a_15, .ref a_16, .ref a_17, .ref a_18, .int i_10, .int i_11, .int i_12, .int i_13, .int i_14, .int i_15, .ref a_19, .int i_16, .ref a_20])), (a_5, .inl (cy 0, 600, .inl f_0))]) hS
                              refine lv_iload_n hx hb dX12_next_156 rfl (lv_at hl 0 rfl) ?_
                              refine lv_bipush (v := 11) hx hb dX12_next_157 (by decide) ?_
                              refine lv_icmp_le (tgt := 169) hx hb dX12_next_159 (by decide) (fun c572 => ?_) (fun c572 => ?_)
                              · refine lv_aload_n hx hb dX12_next_169 rfl (lv_at hl 1 rfl) ?_
                                refine lv_dup hx hb dX12_next_170 rfl ?_
                                refine va_get (D := G) (ci := 12) (v := .int y102_0_7_554) (C := RX12) (T := TX12) (N := 38) hx hb hts (mm_i inlX12) hown hK.1 hP 0 rfl rfl 7 (by decide) (mm_h hts mm_w450) (fun _ h9 => h9) rfl dX12_next_171 ?_
                                refine lv_iconst (v := 1) hx hb dX12_next_174 (by decide) ?_
                                refine lv_iadd hx hb dX12_next_175 ?_
                                refine lv_topi (fun v573 ev573 => ?_)
                                have rv573 : mm_rg v573 1 600 := mm_add ev573 w560 mm_k1 (by decide) (by decide)
                                have tv573 := mm_addEc ev573 w560 mm_k1 (by decide) (k := 1) (by decide)
                                refine va_put (D := G) (ci := 12) (v := .int v573) (ty := tyX12 7) (C := RX12) (T := TX12) (N := 38) hx hb hts (mm_i inlX12) tyX12 tyX12_ok nmX12 hown hK.1 hP hD hS 0 rfl rfl 7 (by decide) (mm_h hts mm_w450) (fun _ h9 => h9) rfl (tyX12_ok 7 (by decide)) rfl rfl (Nat.le_of_ble_eq_true rfl) dX12_next_176 ?_
                                clear hP hD hS
                                clear H locs
                                intro H locs (hP : va_P G vwCl [(a_0, .inr (12, [.int i_0, .ref a_1, .ref a_2, .ref a_3, .ref a_4, .ref a_5, .int i_1, .int v573, .int 1, .int y0_0_7_29, .int 0, .long v571, .int i_6, .int i_7, .int i_8, .int i_9, .ref a_6, .ref a_7, .ref a_8, .ref a_9, .ref a_10, .ref a_11, .ref a_12, .ref a_13, .ref a_14, .ref a_15, .ref a_16, .ref a_17, .ref a_18, .int i_10, .int i_11, .int i_12, .int i_13, .int i_14, .int i_15, .ref a_19, .int i_16, .ref a_20])), (a_5, .inl (cy 0, 600, .inl f_0))] H) (hD : va_D A [(a_0, .inr (12, [.int i_0, .ref a_1, .ref a_2, .ref a_3, .ref a_4, .ref a_5, .int i_1, .int v573, .int 1, .int y0_0_7_29, .int 0, .long v571, .int i_6, .int i_7, .int i_8, .int i_9, .ref a_6, .ref a_7, .ref a_8, .ref a_9, .ref a_10, .ref a_11, .ref a_12, .ref a_13, .ref a_14, .ref a_15, .ref a_16, .ref a_17, .ref a_18, .int i_10, .int i_11, .int i_12, .int i_13, .int i_14, .int i_15, .ref a_19, .int i_16, .ref a_20])), (a_5, .inl (cy 0, 600, .inl f_0))]) hS
                                obtain ⟨v574, ev574⟩ : ∃ y : Int32, y = x102_1_553 + 1 := ⟨_, rfl⟩
                                refine lv_iinc (v := v574) (lv' := [(1, .int v574), (0, .ref a_0)]) hx hb dX12_next_179 hl (k := 0) rfl (by rw [ev574]; rfl) (by decide) rfl ?_
                                clear hl
                                clear ls
                                intro ls hl
                                have rv574 : mm_rg v574 (-2147483647) 12 := mm_add ev574 q566 mm_k1 (by decide) (by decide)
                                have tv574 := mm_addEc ev574 q566 mm_k1 (by decide) (k := 1) (by decide)
                                refine lv_goto (tgt := 102) hx hb dX12_next_182 (by decide) ?_
                                exact ih102 v574 v573 v571 (mm_wk rv573 (by decide)) (by have := tv573; have := w561; omega) (by have := tv573; have := w557; omega) (mm_mu hm102 tv573 (by decide) (rv573).2 (by decide)) H locs hP hD hS ls (lv_sub hl [0, 1] rfl)
                              · have q575 := mm_ltL (h := 10) (mm_nle c572) mm_k11 q566 (by decide)
                                exact mm_no q575 (by decide)
                            · have q576 := mm_ltR (lo := 12) (mm_nle c565) mm_k11 (mm_top x102_1_553) (by decide)
                              refine lv_ldc2 (v := (-1)) hx hb hown (mm_h hts mm_w458) dX12_next_124 ?_
                              refine lv_goto (tgt := 153) hx hb dX12_next_127 (by decide) ?_
                              refine va_put (D := G) (ci := 12) (v := .long (-1)) (ty := tyX12 11) (C := RX12) (T := TX12) (N := 38) hx hb hts (mm_i inlX12) tyX12 tyX12_ok nmX12 hown hK.1 hP hD hS 0 rfl rfl 11 (by decide) (mm_h hts mm_w457) (fun _ h9 => h9) rfl (tyX12_ok 11 (by decide)) rfl rfl (Nat.le_of_ble_eq_true rfl) dX12_next_153 ?_
                              clear hP hD hS
                              clear H locs
                              intro H locs (hP : va_P G vwCl [(a_0, .inr (12, [.int i_0, .ref a_1, .ref a_2, .ref a_3, .ref a_4, .ref a_5, .int i_1, .int y102_0_7_554, .int 1, .int y0_0_7_29, .int 0, .long (-1), .int i_6, .int i_7, .int i_8, .int i_9, .ref a_6, .ref a_7, .ref a_8, .ref a_9, .ref a_10, .ref a_11, .ref a_12, .ref a_13, .ref a_14, .ref a_15, .ref a_16, .ref a_17, .ref a_18, .int i_10, .int i_11, .int i_12, .int i_13, .int i_14, .int i_15, .ref a_19, .int i_16, .ref a_20])), (a_5, .inl (cy 0, 600, .inl f_0))] H) (hD : va_D A [(a_0, .inr (12, [.int i_0, .ref a_1, .ref a_2, .ref a_3, .ref a_4, .ref a_5, .int i_1, .int y102_0_7_554, .int 1, .int y0_0_7_29, .int 0, .long (-1), .int i_6, .int i_7, .int i_8, .int i_9, .ref a_6, .ref a_7, .ref a_8, .ref a_9, .ref a_10, .ref a_11, .ref a_12, .ref a_13, .ref a_14, .ref a_15, .ref a_16, .ref a_17, .ref a_18, .int i_10, .int i_11, .int i_12, .int i_13, .int i_14, .int i_15, .ref a_19, .int i_16, .ref a_20])), (a_5, .inl (cy 0, 600, .inl f_0))]) hS
                              refine lv_iload_n hx hb dX12_next_156 rfl (lv_at hl 0 rfl) ?_
                              refine lv_bipush (v := 11) hx hb dX12_next_157 (by decide) ?_
                              refine lv_icmp_le (tgt := 169) hx hb dX12_next_159 (by decide) (fun c577 => ?_) (fun c577 => ?_)
                              · have q578 := mm_leL (mm_le c577) q576 mm_k11
                                exact mm_no q578 (by decide)
                              · refine lv_aload_n hx hb dX12_next_162 rfl (lv_at hl 1 rfl) ?_
                                refine lv_ldc2 (v := (-1)) hx hb hown (mm_h hts mm_w458) dX12_next_163 ?_
                                refine va_put (D := G) (ci := 12) (v := .long (-1)) (ty := tyX12 11) (C := RX12) (T := TX12) (N := 38) hx hb hts (mm_i inlX12) tyX12 tyX12_ok nmX12 hown hK.1 hP hD hS 0 rfl rfl 11 (by decide) (mm_h hts mm_w457) (fun _ h9 => h9) rfl (tyX12_ok 11 (by decide)) rfl rfl (Nat.le_of_ble_eq_true rfl) dX12_next_166 ?_
                                clear hP hD hS
                                clear H locs
                                intro H locs (hP : va_P G vwCl [(a_0, .inr (12, [.int i_0, .ref a_1, .ref a_2, .ref a_3, .ref a_4, .ref a_5, .int i_1, .int y102_0_7_554, .int 1, .int y0_0_7_29, .int 0, .long (-1), .int i_6, .int i_7, .int i_8, .int i_9, .ref a_6, .ref a_7, .ref a_8, .ref a_9, .ref a_10, .ref a_11, .ref a_12, .ref a_13, .ref a_14, .ref a_15, .ref a_16, .ref a_17, .ref a_18, .int i_10, .int i_11, .int i_12, .int i_13, .int i_14, .int i_15, .ref a_19, .int i_16, .ref a_20])), (a_5, .inl (cy 0, 600, .inl f_0))] H) (hD : va_D A [(a_0, .inr (12, [.int i_0, .ref a_1, .ref a_2, .ref a_3, .ref a_4, .ref a_5, .int i_1, .int y102_0_7_554, .int 1, .int y0_0_7_29, .int 0, .long (-1), .int i_6, .int i_7, .int i_8, .int i_9, .ref a_6, .ref a_7, .ref a_8, .ref a_9, .ref a_10, .ref a_11, .ref a_12, .ref a_13, .ref a_14, .ref a_15, .ref a_16, .ref a_17, .ref a_18, .int i_10, .int i_11, .int i_12, .int i_13, .int i_14, .int i_15, .ref a_19, .int i_16, .ref a_20])), (a_5, .inl (cy 0, 600, .inl f_0))]) hS
                                refine lv_aload_n hx hb dX12_next_169 rfl (lv_at hl 1 rfl) ?_
                                refine lv_dup hx hb dX12_next_170 rfl ?_
                                refine va_get (D := G) (ci := 12) (v := .int y102_0_7_554) (C := RX12) (T := TX12) (N := 38) hx hb hts (mm_i inlX12) hown hK.1 hP 0 rfl rfl 7 (by decide) (mm_h hts mm_w450) (fun _ h9 => h9) rfl dX12_next_171 ?_
                                refine lv_iconst (v := 1) hx hb dX12_next_174 (by decide) ?_
                                refine lv_iadd hx hb dX12_next_175 ?_
                                refine lv_topi (fun v579 ev579 => ?_)
                                have rv579 : mm_rg v579 1 600 := mm_add ev579 w560 mm_k1 (by decide) (by decide)
                                have tv579 := mm_addEc ev579 w560 mm_k1 (by decide) (k := 1) (by decide)
                                refine va_put (D := G) (ci := 12) (v := .int v579) (ty := tyX12 7) (C := RX12) (T := TX12) (N := 38) hx hb hts (mm_i inlX12) tyX12 tyX12_ok nmX12 hown hK.1 hP hD hS 0 rfl rfl 7 (by decide) (mm_h hts mm_w450) (fun _ h9 => h9) rfl (tyX12_ok 7 (by decide)) rfl rfl (Nat.le_of_ble_eq_true rfl) dX12_next_176 ?_
                                clear hP hD hS
                                clear H locs
                                intro H locs (hP : va_P G vwCl [(a_0, .inr (12, [.int i_0, .ref a_1, .ref a_2, .ref a_3, .ref a_4, .ref a_5, .int i_1, .int v579, .int 1, .int y0_0_7_29, .int 0, .long (-1), .int i_6, .int i_7, .int i_8, .int i_9, .ref a_6, .ref a_7, .ref a_8, .ref a_9, .ref a_10, .ref a_11, .ref a_12, .ref a_13, .ref a_14, .ref a_15, .ref a_16, .ref a_17, .ref a_18, .int i_10, .int i_11, .int i_12, .int i_13, .int i_14, .int i_15, .ref a_19, .int i_16, .ref a_20])), (a_5, .inl (cy 0, 600, .inl f_0))] H) (hD : va_D A [(a_0, .inr (12, [.int i_0, .ref a_1, .ref a_2, .ref a_3, .ref a_4, .ref a_5, .int i_1, .int v579, .int 1, .int y0_0_7_29, .int 0, .long (-1), .int i_6, .int i_7, .int i_8, .int i_9, .ref a_6, .ref a_7, .ref a_8, .ref a_9, .ref a_10, .ref a_11, .ref a_12, .ref a_13, .ref a_14, .ref a_15, .ref a_16, .ref a_17, .ref a_18, .int i_10, .int i_11, .int i_12, .int i_13, .int i_14, .int i_15, .ref a_19, .int i_16, .ref a_20])), (a_5, .inl (cy 0, 600, .inl f_0))]) hS
                                obtain ⟨v580, ev580⟩ : ∃ y : Int32, y = x102_1_553 + 1 := ⟨_, rfl⟩
                                refine lv_iinc (v := v580) (lv' := [(1, .int v580), (0, .ref a_0)]) hx hb dX12_next_179 hl (k := 0) rfl (by rw [ev580]; rfl) (by decide) rfl ?_
                                clear hl
                                clear ls
                                intro ls hl
                                refine lv_goto (tgt := 102) hx hb dX12_next_182 (by decide) ?_
                                exact ih102 v580 v579 (-1) (mm_wk rv579 (by decide)) (by have := tv579; have := w561; omega) (by have := tv579; have := w557; omega) (mm_mu hm102 tv579 (by decide) (rv579).2 (by decide)) H locs hP hD hS ls (lv_sub hl [0, 1] rfl)
                    exact L102_557 _ 0 y0_0_7_29 0 (mm_wk q43 (by decide)) w30 (Int.le_refl _) (Nat.lt_succ_self _) H locs hP hD hS ls (lv_sub hl [0, 1] rfl)
              · refine lv_aload_n hx hb dX12_next_72 rfl (lv_at hl 0 rfl) ?_
                refine lv_iconst (v := 0) hx hb dX12_next_73 (by decide) ?_
                refine va_put (D := G) (ci := 12) (v := .int 0) (ty := tyX12 8) (C := RX12) (T := TX12) (N := 38) hx hb hts (mm_i inlX12) tyX12 tyX12_ok nmX12 hown hK.1 hP hD hS 0 rfl rfl 8 (by decide) (mm_h hts mm_w432) (fun _ h9 => h9) rfl (tyX12_ok 8 (by decide)) rfl rfl (Nat.le_of_ble_eq_true rfl) dX12_next_74 ?_
                clear hP hD hS
                clear H locs
                intro H locs (hP : va_P G vwCl [(a_0, .inr (12, [.int i_0, .ref a_1, .ref a_2, .ref a_3, .ref a_4, .ref a_5, .int i_1, .int y0_0_7_29, .int 0, .int y0_0_7_29, .int 0, .long 0, .int i_6, .int i_7, .int i_8, .int i_9, .ref a_6, .ref a_7, .ref a_8, .ref a_9, .ref a_10, .ref a_11, .ref a_12, .ref a_13, .ref a_14, .ref a_15, .ref a_16, .ref a_17, .ref a_18, .int i_10, .int i_11, .int i_12, .int i_13, .int i_14, .int i_15, .ref a_19, .int i_16, .ref a_20])), (a_5, .inl (cy 0, 600, .inl f_0))] H) (hD : va_D A [(a_0, .inr (12, [.int i_0, .ref a_1, .ref a_2, .ref a_3, .ref a_4, .ref a_5, .int i_1, .int y0_0_7_29, .int 0, .int y0_0_7_29, .int 0, .long 0, .int i_6, .int i_7, .int i_8, .int i_9, .ref a_6, .ref a_7, .ref a_8, .ref a_9, .ref a_10, .ref a_11, .ref a_12, .ref a_13, .ref a_14, .ref a_15, .ref a_16, .ref a_17, .ref a_18, .int i_10, .int i_11, .int i_12, .int i_13, .int i_14, .int i_15, .ref a_19, .int i_16, .ref a_20])), (a_5, .inl (cy 0, 600, .inl f_0))]) hS
                refine lv_goto (tgt := 307) hx hb dX12_next_77 (by decide) ?_
                have w581 : (y0_0_7_29 : Int32).toInt ≤ (y0_0_7_29 : Int32).toInt := (Int.le_refl _)
                have w582 : mm_tk 0 y0_0_7_29 y0_0_7_29 := (mm_tk1 mm_k0 (by decide))
                subst hAe
                rw [hQ]
                exact W.vret hx hb hr (fun t ht hW => ⟨⟨(y0_0_7_29, 0, y0_0_7_29, 0, 0), rfl, ⟨ry0_0_7_29, (mm_wk mm_k0 (by decide)), ry0_0_7_29, w581, w30, w582, w31⟩, by rw [ht]; exact hP, hK.warm hW, hD⟩, hS.F ht⟩) hS.2.2 dX12_next_307
            · exact absurd rfl (mm_ne c40)
          · have q583 := mm_ltR (lo := 1) w39 w38 h0 (by decide)
            refine lv_if_eq (tgt := 43) hx hb dX12_next_27 (by decide) (fun c584 => ?_) (fun c584 => ?_)
            · exact mm_eqN c584.symm mm_k0 mm_k1 (by decide)
            · refine lv_aload_n hx hb dX12_next_30 rfl (lv_at hl 0 rfl) ?_
              refine lv_dup hx hb dX12_next_31 rfl ?_
              refine va_get (D := G) (ci := 12) (v := .int y0_0_7_29) (C := RX12) (T := TX12) (N := 38) hx hb hts (mm_i inlX12) hown hK.1 hP 0 rfl rfl 7 (by decide) (mm_h hts mm_w450) (fun _ h9 => h9) rfl dX12_next_32 ?_
              refine lv_iconst (v := 1) hx hb dX12_next_35 (by decide) ?_
              refine lv_iadd hx hb dX12_next_36 ?_
              refine lv_topi (fun v585 ev585 => ?_)
              have rv585 : mm_rg v585 1 600 := mm_add ev585 w38 mm_k1 (by decide) (by decide)
              have tv585 := mm_addEc ev585 w38 mm_k1 (by decide) (k := 1) (by decide)
              refine va_put (D := G) (ci := 12) (v := .int v585) (ty := tyX12 7) (C := RX12) (T := TX12) (N := 38) hx hb hts (mm_i inlX12) tyX12 tyX12_ok nmX12 hown hK.1 hP hD hS 0 rfl rfl 7 (by decide) (mm_h hts mm_w450) (fun _ h9 => h9) rfl (tyX12_ok 7 (by decide)) rfl rfl (Nat.le_of_ble_eq_true rfl) dX12_next_37 ?_
              clear hP hD hS
              clear H locs
              intro H locs (hP : va_P G vwCl [(a_0, .inr (12, [.int i_0, .ref a_1, .ref a_2, .ref a_3, .ref a_4, .ref a_5, .int i_1, .int v585, .int i_3, .int i_4, .int i_5, .long j_0, .int i_6, .int i_7, .int i_8, .int i_9, .ref a_6, .ref a_7, .ref a_8, .ref a_9, .ref a_10, .ref a_11, .ref a_12, .ref a_13, .ref a_14, .ref a_15, .ref a_16, .ref a_17, .ref a_18, .int i_10, .int i_11, .int i_12, .int i_13, .int i_14, .int i_15, .ref a_19, .int i_16, .ref a_20])), (a_5, .inl (cy 0, 600, .inl f_0))] H) (hD : va_D A [(a_0, .inr (12, [.int i_0, .ref a_1, .ref a_2, .ref a_3, .ref a_4, .ref a_5, .int i_1, .int v585, .int i_3, .int i_4, .int i_5, .long j_0, .int i_6, .int i_7, .int i_8, .int i_9, .ref a_6, .ref a_7, .ref a_8, .ref a_9, .ref a_10, .ref a_11, .ref a_12, .ref a_13, .ref a_14, .ref a_15, .ref a_16, .ref a_17, .ref a_18, .int i_10, .int i_11, .int i_12, .int i_13, .int i_14, .int i_15, .ref a_19, .int i_16, .ref a_20])), (a_5, .inl (cy 0, 600, .inl f_0))]) hS
              refine lv_goto (tgt := 0) hx hb dX12_next_40 (by decide) ?_
              exact ih0 v585 (mm_wk rv585 (by decide)) (by have := tv585; have := w39; omega) (by have := tv585; have := w31; omega) (mm_mu hm0 tv585 (by decide) (rv585).2 (by decide)) H locs hP hD hS ls (lv_sub hl [0] rfl)
      · have q586 := mm_ltR (lo := 1) w35 w34 h0 (by decide)
        refine lv_if_ne (tgt := 30) hx hb dX12_next_12 (by decide) (fun c587 => ?_) (fun c587 => ?_)
        · refine lv_aload_n hx hb dX12_next_30 rfl (lv_at hl 0 rfl) ?_
          refine lv_dup hx hb dX12_next_31 rfl ?_
          refine va_get (D := G) (ci := 12) (v := .int y0_0_7_29) (C := RX12) (T := TX12) (N := 38) hx hb hts (mm_i inlX12) hown hK.1 hP 0 rfl rfl 7 (by decide) (mm_h hts mm_w450) (fun _ h9 => h9) rfl dX12_next_32 ?_
          refine lv_iconst (v := 1) hx hb dX12_next_35 (by decide) ?_
          refine lv_iadd hx hb dX12_next_36 ?_
          refine lv_topi (fun v588 ev588 => ?_)
          have rv588 : mm_rg v588 1 600 := mm_add ev588 w34 mm_k1 (by decide) (by decide)
          have tv588 := mm_addEc ev588 w34 mm_k1 (by decide) (k := 1) (by decide)
          refine va_put (D := G) (ci := 12) (v := .int v588) (ty := tyX12 7) (C := RX12) (T := TX12) (N := 38) hx hb hts (mm_i inlX12) tyX12 tyX12_ok nmX12 hown hK.1 hP hD hS 0 rfl rfl 7 (by decide) (mm_h hts mm_w450) (fun _ h9 => h9) rfl (tyX12_ok 7 (by decide)) rfl rfl (Nat.le_of_ble_eq_true rfl) dX12_next_37 ?_
          clear hP hD hS
          clear H locs
          intro H locs (hP : va_P G vwCl [(a_0, .inr (12, [.int i_0, .ref a_1, .ref a_2, .ref a_3, .ref a_4, .ref a_5, .int i_1, .int v588, .int i_3, .int i_4, .int i_5, .long j_0, .int i_6, .int i_7, .int i_8, .int i_9, .ref a_6, .ref a_7, .ref a_8, .ref a_9, .ref a_10, .ref a_11, .ref a_12, .ref a_13, .ref a_14, .ref a_15, .ref a_16, .ref a_17, .ref a_18, .int i_10, .int i_11, .int i_12, .int i_13, .int i_14, .int i_15, .ref a_19, .int i_16, .ref a_20])), (a_5, .inl (cy 0, 600, .inl f_0))] H) (hD : va_D A [(a_0, .inr (12, [.int i_0, .ref a_1, .ref a_2, .ref a_3, .ref a_4, .ref a_5, .int i_1, .int v588, .int i_3, .int i_4, .int i_5, .long j_0, .int i_6, .int i_7, .int i_8, .int i_9, .ref a_6, .ref a_7, .ref a_8, .ref a_9, .ref a_10, .ref a_11, .ref a_12, .ref a_13, .ref a_14, .ref a_15, .ref a_16, .ref a_17, .ref a_18, .int i_10, .int i_11, .int i_12, .int i_13, .int i_14, .int i_15, .ref a_19, .int i_16, .ref a_20])), (a_5, .inl (cy 0, 600, .inl f_0))]) hS
          refine lv_goto (tgt := 0) hx hb dX12_next_40 (by decide) ?_
          exact ih0 v588 (mm_wk rv588 (by decide)) (by have := tv588; have := w35; omega) (by have := tv588; have := w31; omega) (mm_mu hm0 tv588 (by decide) (rv588).2 (by decide)) H locs hP hD hS ls (lv_sub hl [0] rfl)
        · exact mm_eqN c587.symm mm_k0 mm_k1 (by decide)
  exact L0_31 _ i_2 h1 h5 (Int.le_refl _) (Nat.lt_succ_self _) H locs hP hD hS ls (lv_sub hl [0] rfl)

set_option maxHeartbeats 4000000 in
set_option maxRecDepth 100000 in
theorem M23_X12_begins (l : Launch) (G : va_G) (cy : Nat → ClassId) (sz : Nat) (a_0 : Nat) (i_0 : Int32) (a_1 : Nat) (a_2 : Nat) (a_3 : Nat) (a_4 : Nat) (a_5 : Nat) (i_1 : Int32) (i_2 : Int32) (i_3 : Int32) (i_4 : Int32) (i_5 : Int32) (j_0 : Int64) (i_6 : Int32) (i_7 : Int32) (i_8 : Int32) (i_9 : Int32) (a_6 : Nat) (a_7 : Nat) (a_8 : Nat) (a_9 : Nat) (a_10 : Nat) (a_11 : Nat) (a_12 : Nat) (a_13 : Nat) (a_14 : Nat) (a_15 : Nat) (a_16 : Nat) (a_17 : Nat) (a_18 : Nat) (i_10 : Int32) (i_11 : Int32) (i_12 : Int32) (i_13 : Int32) (i_14 : Int32) (i_15 : Int32) (a_19 : Nat) (i_16 : Int32) (a_20 : Nat) (f_0 : Nat → Int32) (h0 : mm_rg i_1 0 600) (h1 : mm_rg i_2 0 600) (h2 : mm_rg i_3 0 4) (h3 : mm_rg i_4 0 600) (h4 : mm_rg i_6 0 3) (h5 : mm_ar f_0 (-128) 127)  : mm_CV l yX12_begins (mm_ws yX12_begins cX12_begins 1 (none)) ({ frames := 2, cells := 0, slots := 0, locals := 44 } : Room) G cy sz [(a_0, .inr (12, [.int i_0, .ref a_1, .ref a_2, .ref a_3, .ref a_4, .ref a_5, .int i_1, .int i_2, .int i_3, .int i_4, .int i_5, .long j_0, .int i_6, .int i_7, .int i_8, .int i_9, .ref a_6, .ref a_7, .ref a_8, .ref a_9, .ref a_10, .ref a_11, .ref a_12, .ref a_13, .ref a_14, .ref a_15, .ref a_16, .ref a_17, .ref a_18, .int i_10, .int i_11, .int i_12, .int i_13, .int i_14, .int i_15, .ref a_19, .int i_16, .ref a_20])), (a_5, .inl (cy 0, 600, .inl f_0))] [.ref a_0] (fun u : Int32 × Int32 × Int32 × Int32 × Int64 => [(a_0, .inr (12, [.int i_0, .ref a_1, .ref a_2, .ref a_3, .ref a_4, .ref a_5, .int i_1, .int u.1, .int u.2.1, .int u.2.2.1, .int u.2.2.2.1, .long u.2.2.2.2, .int 0, .int (-1), .int i_8, .int i_9, .ref a_6, .ref a_7, .ref a_8, .ref a_9, .ref a_10, .ref a_11, .ref a_12, .ref a_13, .ref a_14, .ref a_15, .ref a_16, .ref a_17, .ref a_18, .int i_10, .int i_11, .int i_12, .int i_13, .int i_14, .int i_15, .ref a_19, .int i_16, .ref a_20])), (a_5, .inl (cy 0, 600, .inl f_0))]) (fun u : Int32 × Int32 × Int32 × Int32 × Int64 => mm_rg u.1 0 600 ∧ mm_rg u.2.1 0 4 ∧ mm_rg u.2.2.1 0 600 ∧ (u.2.2.1 : Int32).toInt ≤ (u.1 : Int32).toInt ∧ (u.1 : Int32).toInt ≤ (i_1 : Int32).toInt ∧ mm_tk u.2.1 u.2.2.1 u.1) 0 0 := by
  refine mm_begin (lv := [(0, .ref a_0)]) (by decide) (Nat.le_of_ble_eq_true rfl) rfl ?_
  intro p e s m below meth c A ls R args Q H locs hRe hQ hAe hx hb hr hlocks hml hown hnm hts hsz hA hS hP hK hD hZ hl
  have hRf : R.frames = 2 := by rw [hRe]
  have hRl : R.locals = 44 := by rw [hRe]
  have hRc : R.cells = 0 := by rw [hRe]
  have hRs : R.slots = 0 := by rw [hRe]
  refine lv_aload_n hx hb dX12_begins_0 rfl (lv_at hl 0 rfl) ?_
  refine lv_iconst (v := 0) hx hb dX12_begins_1 (by decide) ?_
  refine va_put (D := G) (ci := 12) (v := .int 0) (ty := tyX12 12) (C := RX12) (T := TX12) (N := 38) hx hb hts (mm_i inlX12) tyX12 tyX12_ok nmX12 hown hK.1 hP hD hS 0 rfl rfl 12 (by decide) (mm_h hts mm_w436) (fun _ h9 => h9) rfl (tyX12_ok 12 (by decide)) rfl rfl (Nat.le_of_ble_eq_true rfl) dX12_begins_2 ?_
  clear hP hD hS
  clear H locs
  intro H locs (hP : va_P G vwCl [(a_0, .inr (12, [.int i_0, .ref a_1, .ref a_2, .ref a_3, .ref a_4, .ref a_5, .int i_1, .int i_2, .int i_3, .int i_4, .int i_5, .long j_0, .int 0, .int i_7, .int i_8, .int i_9, .ref a_6, .ref a_7, .ref a_8, .ref a_9, .ref a_10, .ref a_11, .ref a_12, .ref a_13, .ref a_14, .ref a_15, .ref a_16, .ref a_17, .ref a_18, .int i_10, .int i_11, .int i_12, .int i_13, .int i_14, .int i_15, .ref a_19, .int i_16, .ref a_20])), (a_5, .inl (cy 0, 600, .inl f_0))] H) (hD : va_D A [(a_0, .inr (12, [.int i_0, .ref a_1, .ref a_2, .ref a_3, .ref a_4, .ref a_5, .int i_1, .int i_2, .int i_3, .int i_4, .int i_5, .long j_0, .int 0, .int i_7, .int i_8, .int i_9, .ref a_6, .ref a_7, .ref a_8, .ref a_9, .ref a_10, .ref a_11, .ref a_12, .ref a_13, .ref a_14, .ref a_15, .ref a_16, .ref a_17, .ref a_18, .int i_10, .int i_11, .int i_12, .int i_13, .int i_14, .int i_15, .ref a_19, .int i_16, .ref a_20])), (a_5, .inl (cy 0, 600, .inl f_0))]) hS
  refine lv_aload_n hx hb dX12_begins_5 rfl (lv_at hl 0 rfl) ?_
  refine lv_iconst (v := (-1)) hx hb dX12_begins_6 (by decide) ?_
  refine va_put (D := G) (ci := 12) (v := .int (-1)) (ty := tyX12 13) (C := RX12) (T := TX12) (N := 38) hx hb hts (mm_i inlX12) tyX12 tyX12_ok nmX12 hown hK.1 hP hD hS 0 rfl rfl 13 (by decide) (mm_h hts mm_w449) (fun _ h9 => h9) rfl (tyX12_ok 13 (by decide)) rfl rfl (Nat.le_of_ble_eq_true rfl) dX12_begins_7 ?_
  clear hP hD hS
  clear H locs
  intro H locs (hP : va_P G vwCl [(a_0, .inr (12, [.int i_0, .ref a_1, .ref a_2, .ref a_3, .ref a_4, .ref a_5, .int i_1, .int i_2, .int i_3, .int i_4, .int i_5, .long j_0, .int 0, .int (-1), .int i_8, .int i_9, .ref a_6, .ref a_7, .ref a_8, .ref a_9, .ref a_10, .ref a_11, .ref a_12, .ref a_13, .ref a_14, .ref a_15, .ref a_16, .ref a_17, .ref a_18, .int i_10, .int i_11, .int i_12, .int i_13, .int i_14, .int i_15, .ref a_19, .int i_16, .ref a_20])), (a_5, .inl (cy 0, 600, .inl f_0))] H) (hD : va_D A [(a_0, .inr (12, [.int i_0, .ref a_1, .ref a_2, .ref a_3, .ref a_4, .ref a_5, .int i_1, .int i_2, .int i_3, .int i_4, .int i_5, .long j_0, .int 0, .int (-1), .int i_8, .int i_9, .ref a_6, .ref a_7, .ref a_8, .ref a_9, .ref a_10, .ref a_11, .ref a_12, .ref a_13, .ref a_14, .ref a_15, .ref a_16, .ref a_17, .ref a_18, .int i_10, .int i_11, .int i_12, .int i_13, .int i_14, .int i_15, .ref a_19, .int i_16, .ref a_20])), (a_5, .inl (cy 0, 600, .inl f_0))]) hS
  refine lv_aload_n hx hb dX12_begins_10 rfl (lv_at hl 0 rfl) ?_
  refine lv_iconst (v := 0) hx hb dX12_begins_11 (by decide) ?_
  refine va_put (D := G) (ci := 12) (v := .int 0) (ty := tyX12 7) (C := RX12) (T := TX12) (N := 38) hx hb hts (mm_i inlX12) tyX12 tyX12_ok nmX12 hown hK.1 hP hD hS 0 rfl rfl 7 (by decide) (mm_h hts mm_w450) (fun _ h9 => h9) rfl (tyX12_ok 7 (by decide)) rfl rfl (Nat.le_of_ble_eq_true rfl) dX12_begins_12 ?_
  clear hP hD hS
  clear H locs
  intro H locs (hP : va_P G vwCl [(a_0, .inr (12, [.int i_0, .ref a_1, .ref a_2, .ref a_3, .ref a_4, .ref a_5, .int i_1, .int 0, .int i_3, .int i_4, .int i_5, .long j_0, .int 0, .int (-1), .int i_8, .int i_9, .ref a_6, .ref a_7, .ref a_8, .ref a_9, .ref a_10, .ref a_11, .ref a_12, .ref a_13, .ref a_14, .ref a_15, .ref a_16, .ref a_17, .ref a_18, .int i_10, .int i_11, .int i_12, .int i_13, .int i_14, .int i_15, .ref a_19, .int i_16, .ref a_20])), (a_5, .inl (cy 0, 600, .inl f_0))] H) (hD : va_D A [(a_0, .inr (12, [.int i_0, .ref a_1, .ref a_2, .ref a_3, .ref a_4, .ref a_5, .int i_1, .int 0, .int i_3, .int i_4, .int i_5, .long j_0, .int 0, .int (-1), .int i_8, .int i_9, .ref a_6, .ref a_7, .ref a_8, .ref a_9, .ref a_10, .ref a_11, .ref a_12, .ref a_13, .ref a_14, .ref a_15, .ref a_16, .ref a_17, .ref a_18, .int i_10, .int i_11, .int i_12, .int i_13, .int i_14, .int i_15, .ref a_19, .int i_16, .ref a_20])), (a_5, .inl (cy 0, 600, .inl f_0))]) hS
  refine lv_aload_n hx hb dX12_begins_15 rfl (lv_at hl 0 rfl) ?_
  refine mm_finv (va_runV (As := []) (rest := []) ⟨hx, hb, hml, hown, hts⟩ (M22_X12_next l G cy H.size a_0 i_0 a_1 a_2 a_3 a_4 a_5 i_1 0 i_3 i_4 i_5 j_0 0 (-1) i_8 i_9 a_6 a_7 a_8 a_9 a_10 a_11 a_12 a_13 a_14 a_15 a_16 a_17 a_18 i_10 i_11 i_12 i_13 i_14 i_15 a_19 i_16 a_20 f_0 h0 (mm_wk mm_k0 (by decide)) h2 h3 h5 (mm_leC mm_k0 h0 (by decide))) (cwV 0 hts (mm_gV mm_w451 mm_w452 mm_w453 mm_w5 mm_w454) rfl rfl rfl hd_X12_next ⟨by rw [hRf]; exact Nat.le_of_ble_eq_true rfl, by rw [hRl]; exact Nat.le_of_ble_eq_true rfl⟩) (mm_preV hK hZ hS hA hP hD [0, 1] rfl rfl 0 rfl rfl rfl) rfl rfl hl.1 rfl (lv_room (Nat.le_of_ble_eq_true rfl)) dX12_begins_16 ⟨by rw [hRc]; exact Nat.le_of_ble_eq_true rfl, by rw [hRs]; exact Nat.le_of_ble_eq_true rfl⟩) hP hD hS hA (fun u : Int32 × Int32 × Int32 × Int32 × Int64 => [(a_0, .inr (12, [.int i_0, .ref a_1, .ref a_2, .ref a_3, .ref a_4, .ref a_5, .int i_1, .int u.1, .int u.2.1, .int u.2.2.1, .int u.2.2.2.1, .long u.2.2.2.2, .int 0, .int (-1), .int i_8, .int i_9, .ref a_6, .ref a_7, .ref a_8, .ref a_9, .ref a_10, .ref a_11, .ref a_12, .ref a_13, .ref a_14, .ref a_15, .ref a_16, .ref a_17, .ref a_18, .int i_10, .int i_11, .int i_12, .int i_13, .int i_14, .int i_15, .ref a_19, .int i_16, .ref a_20])), (a_5, .inl (cy 0, 600, .inl f_0))]) [0, 1] [] (n := 2) (fun _ => rfl) (by decide +kernel) (by decide +kernel) rfl (fun _ => rfl) (wr := []) rfl (fun _ => rfl) (fun _ => rfl) ?_
  clear hP hD hS
  clear H locs
  intro u
  obtain ⟨n1, n2, n3, n4, n5⟩ := u
  intro H locs hw (hP : va_P G vwCl [(a_0, .inr (12, [.int i_0, .ref a_1, .ref a_2, .ref a_3, .ref a_4, .ref a_5, .int i_1, .int n1, .int n2, .int n3, .int n4, .long n5, .int 0, .int (-1), .int i_8, .int i_9, .ref a_6, .ref a_7, .ref a_8, .ref a_9, .ref a_10, .ref a_11, .ref a_12, .ref a_13, .ref a_14, .ref a_15, .ref a_16, .ref a_17, .ref a_18, .int i_10, .int i_11, .int i_12, .int i_13, .int i_14, .int i_15, .ref a_19, .int i_16, .ref a_20])), (a_5, .inl (cy 0, 600, .inl f_0))] H) (hD : va_D A [(a_0, .inr (12, [.int i_0, .ref a_1, .ref a_2, .ref a_3, .ref a_4, .ref a_5, .int i_1, .int n1, .int n2, .int n3, .int n4, .long n5, .int 0, .int (-1), .int i_8, .int i_9, .ref a_6, .ref a_7, .ref a_8, .ref a_9, .ref a_10, .ref a_11, .ref a_12, .ref a_13, .ref a_14, .ref a_15, .ref a_16, .ref a_17, .ref a_18, .int i_10, .int i_11, .int i_12, .int i_13, .int i_14, .int i_15, .ref a_19, .int i_16, .ref a_20])), (a_5, .inl (cy 0, 600, .inl f_0))]) hS
  obtain ⟨w6, w7, w8, w9, w10, w11, w12⟩ := hw
  replace w9 : (n3 : Int32).toInt ≤ (n1 : Int32).toInt := w9
  replace w10 : (n1 : Int32).toInt ≤ (i_1 : Int32).toInt := w10
  replace w11 : mm_tk n2 n3 n1 := w11
  replace w12 : (0 : Int32).toInt ≤ (n3 : Int32).toInt := w12
  subst hAe
  rw [hQ]
  exact W.vret hx hb hr (fun t ht hW => ⟨⟨(n1, n2, n3, n4, n5), rfl, ⟨w6, w7, w8, w9, w10, w11⟩, by rw [ht]; exact hP, hK.warm hW, hD⟩, hS.F ht⟩) hS.2.2 dX12_begins_19

set_option maxHeartbeats 4000000 in
set_option maxRecDepth 100000 in
theorem M24_X12_isGood (l : Launch) (G : va_G) (cy : Nat → ClassId) (sz : Nat) (a_0 : Nat) (i_0 : Int32) (a_1 : Nat) (a_2 : Nat) (a_3 : Nat) (a_4 : Nat) (a_5 : Nat) (i_1 : Int32) (i_2 : Int32) (i_3 : Int32) (i_4 : Int32) (i_5 : Int32) (j_0 : Int64) (i_6 : Int32) (i_7 : Int32) (i_8 : Int32) (i_9 : Int32) (a_6 : Nat) (a_7 : Nat) (a_8 : Nat) (a_9 : Nat) (a_10 : Nat) (a_11 : Nat) (a_12 : Nat) (a_13 : Nat) (a_14 : Nat) (a_15 : Nat) (a_16 : Nat) (a_17 : Nat) (a_18 : Nat) (i_10 : Int32) (i_11 : Int32) (i_12 : Int32) (i_13 : Int32) (i_14 : Int32) (i_15 : Int32) (a_19 : Nat) (i_16 : Int32) (a_20 : Nat) (h0 : mm_rg i_6 0 3)  : mm_CI l yX12_isGood (mm_ws yX12_isGood cX12_isGood 1 (some .boolean)) ({ frames := 0, cells := 0, slots := 0, locals := 0 } : Room) G cy sz [(a_0, .inr (12, [.int i_0, .ref a_1, .ref a_2, .ref a_3, .ref a_4, .ref a_5, .int i_1, .int i_2, .int i_3, .int i_4, .int i_5, .long j_0, .int i_6, .int i_7, .int i_8, .int i_9, .ref a_6, .ref a_7, .ref a_8, .ref a_9, .ref a_10, .ref a_11, .ref a_12, .ref a_13, .ref a_14, .ref a_15, .ref a_16, .ref a_17, .ref a_18, .int i_10, .int i_11, .int i_12, .int i_13, .int i_14, .int i_15, .ref a_19, .int i_16, .ref a_20]))] [.ref a_0] (fun u : Unit => [(a_0, .inr (12, [.int i_0, .ref a_1, .ref a_2, .ref a_3, .ref a_4, .ref a_5, .int i_1, .int i_2, .int i_3, .int i_4, .int i_5, .long j_0, .int i_6, .int i_7, .int i_8, .int i_9, .ref a_6, .ref a_7, .ref a_8, .ref a_9, .ref a_10, .ref a_11, .ref a_12, .ref a_13, .ref a_14, .ref a_15, .ref a_16, .ref a_17, .ref a_18, .int i_10, .int i_11, .int i_12, .int i_13, .int i_14, .int i_15, .ref a_19, .int i_16, .ref a_20]))]) (fun (r : Int32) (u : Unit) => ((0 = r ∧ mm_rg i_6 1 3) ∨ (1 = r ∧ mm_rg i_6 0 0))) 0 0 := by
  refine mm_begin (lv := [(0, .ref a_0)]) (by decide) (Nat.le_of_ble_eq_true rfl) rfl ?_
  intro p e s m below meth c A ls R args Q H locs hRe hQ hAe hx hb hr hlocks hml hown hnm hts hsz hA hS hP hK hD hZ hl
  have hRf : R.frames = 0 := by rw [hRe]
  have hRl : R.locals = 0 := by rw [hRe]
  have hRc : R.cells = 0 := by rw [hRe]
  have hRs : R.slots = 0 := by rw [hRe]
  refine lv_aload_n hx hb dX12_isGood_0 rfl (lv_at hl 0 rfl) ?_
  refine va_get (D := G) (ci := 12) (v := .int i_6) (C := RX12) (T := TX12) (N := 38) hx hb hts (mm_i inlX12) hown hK.1 hP 0 rfl rfl 12 (by decide) (mm_h hts mm_w436) (fun _ h9 => h9) rfl dX12_isGood_1 ?_
  refine lv_if_ne (tgt := 11) hx hb dX12_isGood_4 (by decide) (fun c1 => ?_) (fun c1 => ?_)
  · have q2 := mm_neL (lo := 1) (mm_ne c1) h0 mm_k0 (by decide) (by decide)
    refine lv_iconst (v := 0) hx hb dX12_isGood_11 (by decide) ?_
    subst hAe
    rw [hQ]
    exact W.zret (v := 0) hx hb hr rfl (fun t ht hW => ⟨⟨0, (), rfl, (Or.inl ⟨rfl, q2⟩), by rw [ht]; exact hP, hK.warm hW, hD⟩, hS.F ht⟩) hS.2.2 dX12_isGood_12
  · have q3 := mm_eqI (lo := 0) (hi := 0) c1 h0 mm_k0 (by decide)
    refine lv_iconst (v := 1) hx hb dX12_isGood_7 (by decide) ?_
    refine lv_goto (tgt := 12) hx hb dX12_isGood_8 (by decide) ?_
    subst hAe
    rw [hQ]
    exact W.zret (v := 1) hx hb hr rfl (fun t ht hW => ⟨⟨1, (), rfl, (Or.inr ⟨rfl, q3⟩), by rw [ht]; exact hP, hK.warm hW, hD⟩, hS.F ht⟩) hS.2.2 dX12_isGood_12

set_option maxHeartbeats 4000000 in
set_option maxRecDepth 100000 in
theorem M25_X12_is (l : Launch) (G : va_G) (cy : Nat → ClassId) (sz : Nat) (a_0 : Nat) (j_0 : Int64) (i_0 : Int32) (a_1 : Nat) (a_2 : Nat) (a_3 : Nat) (a_4 : Nat) (a_5 : Nat) (i_1 : Int32) (i_2 : Int32) (i_3 : Int32) (i_4 : Int32) (i_5 : Int32) (j_1 : Int64) (i_6 : Int32) (i_7 : Int32) (i_8 : Int32) (i_9 : Int32) (a_6 : Nat) (a_7 : Nat) (a_8 : Nat) (a_9 : Nat) (a_10 : Nat) (a_11 : Nat) (a_12 : Nat) (a_13 : Nat) (a_14 : Nat) (a_15 : Nat) (a_16 : Nat) (a_17 : Nat) (a_18 : Nat) (i_10 : Int32) (i_11 : Int32) (i_12 : Int32) (i_13 : Int32) (i_14 : Int32) (i_15 : Int32) (a_19 : Nat) (i_16 : Int32) (a_20 : Nat) (h0 : mm_rg i_3 0 4) (h1 : mm_rg i_6 0 3)  : mm_CI l yX12_is (mm_ws yX12_is cX12_is 3 (some .boolean)) ({ frames := 0, cells := 0, slots := 0, locals := 0 } : Room) G cy sz [(a_0, .inr (12, [.int i_0, .ref a_1, .ref a_2, .ref a_3, .ref a_4, .ref a_5, .int i_1, .int i_2, .int i_3, .int i_4, .int i_5, .long j_1, .int i_6, .int i_7, .int i_8, .int i_9, .ref a_6, .ref a_7, .ref a_8, .ref a_9, .ref a_10, .ref a_11, .ref a_12, .ref a_13, .ref a_14, .ref a_15, .ref a_16, .ref a_17, .ref a_18, .int i_10, .int i_11, .int i_12, .int i_13, .int i_14, .int i_15, .ref a_19, .int i_16, .ref a_20]))] [.ref a_0, .long j_0] (fun u : Unit => [(a_0, .inr (12, [.int i_0, .ref a_1, .ref a_2, .ref a_3, .ref a_4, .ref a_5, .int i_1, .int i_2, .int i_3, .int i_4, .int i_5, .long j_1, .int i_6, .int i_7, .int i_8, .int i_9, .ref a_6, .ref a_7, .ref a_8, .ref a_9, .ref a_10, .ref a_11, .ref a_12, .ref a_13, .ref a_14, .ref a_15, .ref a_16, .ref a_17, .ref a_18, .int i_10, .int i_11, .int i_12, .int i_13, .int i_14, .int i_15, .ref a_19, .int i_16, .ref a_20]))]) (fun (r : Int32) (u : Unit) => ((0 = r) ∨ (1 = r))) 0 0 := by
  refine mm_begin (lv := [(0, .ref a_0), (1, .long j_0)]) (by decide) (Nat.le_of_ble_eq_true rfl) rfl ?_
  intro p e s m below meth c A ls R args Q H locs hRe hQ hAe hx hb hr hlocks hml hown hnm hts hsz hA hS hP hK hD hZ hl
  have hRf : R.frames = 0 := by rw [hRe]
  have hRl : R.locals = 0 := by rw [hRe]
  have hRc : R.cells = 0 := by rw [hRe]
  have hRs : R.slots = 0 := by rw [hRe]
  refine lv_aload_n hx hb dX12_is_0 rfl (lv_at hl 0 rfl) ?_
  refine va_get (D := G) (ci := 12) (v := .int i_6) (C := RX12) (T := TX12) (N := 38) hx hb hts (mm_i inlX12) hown hK.1 hP 0 rfl rfl 12 (by decide) (mm_h hts mm_w436) (fun _ h9 => h9) rfl dX12_is_1 ?_
  refine lv_if_ne (tgt := 28) hx hb dX12_is_4 (by decide) (fun c1 => ?_) (fun c1 => ?_)
  · have q2 := mm_neL (lo := 1) (mm_ne c1) h1 mm_k0 (by decide) (by decide)
    refine lv_iconst (v := 0) hx hb dX12_is_28 (by decide) ?_
    subst hAe
    rw [hQ]
    exact W.zret (v := 0) hx hb hr rfl (fun t ht hW => ⟨⟨0, (), rfl, (Or.inl rfl), by rw [ht]; exact hP, hK.warm hW, hD⟩, hS.F ht⟩) hS.2.2 dX12_is_29
  · have q3 := mm_eqI (lo := 0) (hi := 0) c1 h1 mm_k0 (by decide)
    refine lv_aload_n hx hb dX12_is_7 rfl (lv_at hl 0 rfl) ?_
    refine va_get (D := G) (ci := 12) (v := .int i_3) (C := RX12) (T := TX12) (N := 38) hx hb hts (mm_i inlX12) hown hK.1 hP 0 rfl rfl 8 (by decide) (mm_h hts mm_w432) (fun _ h9 => h9) rfl dX12_is_8 ?_
    refine lv_iconst (v := 1) hx hb dX12_is_11 (by decide) ?_
    refine lv_icmp_ne (tgt := 28) hx hb dX12_is_12 (by decide) (fun c4 => ?_) (fun c4 => ?_)
    · refine lv_iconst (v := 0) hx hb dX12_is_28 (by decide) ?_
      subst hAe
      rw [hQ]
      exact W.zret (v := 0) hx hb hr rfl (fun t ht hW => ⟨⟨0, (), rfl, (Or.inl rfl), by rw [ht]; exact hP, hK.warm hW, hD⟩, hS.F ht⟩) hS.2.2 dX12_is_29
    · have q5 := mm_eqI (lo := 1) (hi := 1) c4 h0 mm_k1 (by decide)
      refine lv_aload_n hx hb dX12_is_15 rfl (lv_at hl 0 rfl) ?_
      refine va_get (D := G) (ci := 12) (v := .long j_1) (C := RX12) (T := TX12) (N := 38) hx hb hts (mm_i inlX12) hown hK.1 hP 0 rfl rfl 11 (by decide) (mm_h hts mm_w457) (fun _ h9 => h9) rfl dX12_is_16 ?_
      refine lv_lload_n hx hb dX12_is_19 rfl (lv_at hl 1 rfl) ?_
      refine W.lcmp hx hb dX12_is_20 ?_
      refine lv_topi (fun v6 ev6 => ?_)
      refine lv_if_ne (tgt := 28) hx hb dX12_is_21 (by decide) (fun c7 => ?_) (fun c7 => ?_)
      · refine lv_iconst (v := 0) hx hb dX12_is_28 (by decide) ?_
        subst hAe
        rw [hQ]
        exact W.zret (v := 0) hx hb hr rfl (fun t ht hW => ⟨⟨0, (), rfl, (Or.inl rfl), by rw [ht]; exact hP, hK.warm hW, hD⟩, hS.F ht⟩) hS.2.2 dX12_is_29
      · refine lv_iconst (v := 1) hx hb dX12_is_24 (by decide) ?_
        refine lv_goto (tgt := 29) hx hb dX12_is_25 (by decide) ?_
        subst hAe
        rw [hQ]
        exact W.zret (v := 1) hx hb hr rfl (fun t ht hW => ⟨⟨1, (), rfl, (Or.inr rfl), by rw [ht]; exact hP, hK.warm hW, hD⟩, hS.F ht⟩) hS.2.2 dX12_is_29

set_option maxHeartbeats 4000000 in
set_option maxRecDepth 100000 in
theorem M26_X12_takes (l : Launch) (G : va_G) (cy : Nat → ClassId) (sz : Nat) (a_0 : Nat) (j_0 : Int64) (i_0 : Int32) (a_1 : Nat) (a_2 : Nat) (a_3 : Nat) (a_4 : Nat) (a_5 : Nat) (i_1 : Int32) (i_2 : Int32) (i_3 : Int32) (i_4 : Int32) (i_5 : Int32) (j_1 : Int64) (i_6 : Int32) (i_7 : Int32) (i_8 : Int32) (i_9 : Int32) (a_6 : Nat) (a_7 : Nat) (a_8 : Nat) (a_9 : Nat) (a_10 : Nat) (a_11 : Nat) (a_12 : Nat) (a_13 : Nat) (a_14 : Nat) (a_15 : Nat) (a_16 : Nat) (a_17 : Nat) (a_18 : Nat) (i_10 : Int32) (i_11 : Int32) (i_12 : Int32) (i_13 : Int32) (i_14 : Int32) (i_15 : Int32) (a_19 : Nat) (i_16 : Int32) (a_20 : Nat) (f_0 : Nat → Int32) (h0 : mm_rg i_1 0 600) (h1 : mm_rg i_2 0 600) (h2 : mm_rg i_3 0 4) (h3 : mm_rg i_4 0 600) (h4 : mm_rg i_6 0 3) (h5 : mm_ar f_0 (-128) 127) (h6 : (i_4 : Int32).toInt ≤ (i_2 : Int32).toInt) (h7 : (i_2 : Int32).toInt ≤ (i_1 : Int32).toInt) (h8 : mm_tk i_3 i_4 i_2)  : mm_CI l yX12_takes (mm_ws yX12_takes cX12_takes 3 (some .boolean)) ({ frames := 2, cells := 0, slots := 0, locals := 44 } : Room) G cy sz [(a_0, .inr (12, [.int i_0, .ref a_1, .ref a_2, .ref a_3, .ref a_4, .ref a_5, .int i_1, .int i_2, .int i_3, .int i_4, .int i_5, .long j_1, .int i_6, .int i_7, .int i_8, .int i_9, .ref a_6, .ref a_7, .ref a_8, .ref a_9, .ref a_10, .ref a_11, .ref a_12, .ref a_13, .ref a_14, .ref a_15, .ref a_16, .ref a_17, .ref a_18, .int i_10, .int i_11, .int i_12, .int i_13, .int i_14, .int i_15, .ref a_19, .int i_16, .ref a_20])), (a_5, .inl (cy 0, 600, .inl f_0))] [.ref a_0, .long j_0] (fun u : Int32 × Int32 × Int32 × Int32 × Int64 => [(a_0, .inr (12, [.int i_0, .ref a_1, .ref a_2, .ref a_3, .ref a_4, .ref a_5, .int i_1, .int u.1, .int u.2.1, .int u.2.2.1, .int u.2.2.2.1, .long u.2.2.2.2, .int i_6, .int i_7, .int i_8, .int i_9, .ref a_6, .ref a_7, .ref a_8, .ref a_9, .ref a_10, .ref a_11, .ref a_12, .ref a_13, .ref a_14, .ref a_15, .ref a_16, .ref a_17, .ref a_18, .int i_10, .int i_11, .int i_12, .int i_13, .int i_14, .int i_15, .ref a_19, .int i_16, .ref a_20])), (a_5, .inl (cy 0, 600, .inl f_0))]) (fun (r : Int32) (u : Int32 × Int32 × Int32 × Int32 × Int64) => mm_rg u.1 0 600 ∧ mm_rg u.2.1 0 4 ∧ mm_rg u.2.2.1 0 600 ∧ (u.2.2.1 : Int32).toInt ≤ (u.1 : Int32).toInt ∧ (u.1 : Int32).toInt ≤ (i_1 : Int32).toInt ∧ mm_tk u.2.1 u.2.2.1 u.1 ∧ (i_4 : Int32).toInt ≤ (u.2.2.1 : Int32).toInt ∧ ((0 = r) ∨ (1 = r))) 0 0 := by
  refine mm_begin (lv := [(0, .ref a_0), (1, .long j_0)]) (by decide) (Nat.le_of_ble_eq_true rfl) rfl ?_
  intro p e s m below meth c A ls R args Q H locs hRe hQ hAe hx hb hr hlocks hml hown hnm hts hsz hA hS hP hK hD hZ hl
  have hRf : R.frames = 2 := by rw [hRe]
  have hRl : R.locals = 44 := by rw [hRe]
  have hRc : R.cells = 0 := by rw [hRe]
  have hRs : R.slots = 0 := by rw [hRe]
  refine lv_aload_n hx hb dX12_takes_0 rfl (lv_at hl 0 rfl) ?_
  refine lv_lload_n hx hb dX12_takes_1 rfl (lv_at hl 1 rfl) ?_
  refine mm_finir (va_runV (As := [.long j_0]) (rest := []) ⟨hx, hb, hml, hown, hts⟩ (M25_X12_is l G cy H.size a_0 j_0 i_0 a_1 a_2 a_3 a_4 a_5 i_1 i_2 i_3 i_4 i_5 j_1 i_6 i_7 i_8 i_9 a_6 a_7 a_8 a_9 a_10 a_11 a_12 a_13 a_14 a_15 a_16 a_17 a_18 i_10 i_11 i_12 i_13 i_14 i_15 a_19 i_16 a_20 h2 h4) (cwV 1 hts (mm_gV mm_w479 mm_w480 mm_w481 mm_w5 mm_w482) rfl rfl rfl hd_X12_is ⟨by rw [hRf]; exact Nat.le_of_ble_eq_true rfl, by rw [hRl]; exact Nat.le_of_ble_eq_true rfl⟩) (mm_preV hK hZ hS hA hP hD [0] rfl rfl 0 rfl rfl rfl) rfl rfl hl.1 rfl (lv_room (Nat.le_of_ble_eq_true rfl)) dX12_takes_2 ⟨by rw [hRc]; exact Nat.le_of_ble_eq_true rfl, by rw [hRs]; exact Nat.le_of_ble_eq_true rfl⟩) hP hD hS hA [0] rfl (fun _ => rfl) ?_
  clear hP hD hS
  clear H locs
  intro v1 _u H locs hw hP hD hS
  rcases hw with rfl | rfl
  · refine lv_if_ne (tgt := 10) hx hb dX12_takes_5 (by decide) (fun c2 => ?_) (fun c2 => ?_)
    · exact absurd rfl (mm_ne c2)
    · refine lv_iconst (v := 0) hx hb dX12_takes_8 (by decide) ?_
      have w3 : (i_4 : Int32).toInt ≤ (i_4 : Int32).toInt := (Int.le_refl _)
      subst hAe
      rw [hQ]
      exact W.zret (v := 0) hx hb hr rfl (fun t ht hW => ⟨⟨0, (i_2, i_3, i_4, i_5, j_1), rfl, ⟨h1, h2, h3, h6, h7, h8, w3, (Or.inl rfl)⟩, by rw [ht]; exact hP, hK.warm hW, hD⟩, hS.F ht⟩) hS.2.2 dX12_takes_9
  · refine lv_if_ne (tgt := 10) hx hb dX12_takes_5 (by decide) (fun c4 => ?_) (fun c4 => ?_)
    · refine lv_aload_n hx hb dX12_takes_10 rfl (lv_at hl 0 rfl) ?_
      refine mm_finv (va_runV (As := []) (rest := []) ⟨hx, hb, hml, hown, hts⟩ (M22_X12_next l G cy H.size a_0 i_0 a_1 a_2 a_3 a_4 a_5 i_1 i_2 i_3 i_4 i_5 j_1 i_6 i_7 i_8 i_9 a_6 a_7 a_8 a_9 a_10 a_11 a_12 a_13 a_14 a_15 a_16 a_17 a_18 i_10 i_11 i_12 i_13 i_14 i_15 a_19 i_16 a_20 f_0 h0 h1 h2 h3 h5 h7) (cwV 0 hts (mm_gV mm_w451 mm_w452 mm_w453 mm_w5 mm_w454) rfl rfl rfl hd_X12_next ⟨by rw [hRf]; exact Nat.le_of_ble_eq_true rfl, by rw [hRl]; exact Nat.le_of_ble_eq_true rfl⟩) (mm_preV hK hZ hS hA hP hD [0, 1] rfl rfl 0 rfl rfl rfl) rfl rfl hl.1 rfl (lv_room (Nat.le_of_ble_eq_true rfl)) dX12_takes_11 ⟨by rw [hRc]; exact Nat.le_of_ble_eq_true rfl, by rw [hRs]; exact Nat.le_of_ble_eq_true rfl⟩) hP hD hS hA (fun u : Int32 × Int32 × Int32 × Int32 × Int64 => [(a_0, .inr (12, [.int i_0, .ref a_1, .ref a_2, .ref a_3, .ref a_4, .ref a_5, .int i_1, .int u.1, .int u.2.1, .int u.2.2.1, .int u.2.2.2.1, .long u.2.2.2.2, .int i_6, .int i_7, .int i_8, .int i_9, .ref a_6, .ref a_7, .ref a_8, .ref a_9, .ref a_10, .ref a_11, .ref a_12, .ref a_13, .ref a_14, .ref a_15, .ref a_16, .ref a_17, .ref a_18, .int i_10, .int i_11, .int i_12, .int i_13, .int i_14, .int i_15, .ref a_19, .int i_16, .ref a_20])), (a_5, .inl (cy 0, 600, .inl f_0))]) [0, 1] [] (n := 2) (fun _ => rfl) (by decide +kernel) (by decide +kernel) rfl (fun _ => rfl) (wr := []) rfl (fun _ => rfl) (fun _ => rfl) ?_
      clear hP hD hS
      clear H locs
      intro u
      obtain ⟨n5, n6, n7, n8, n9⟩ := u
      intro H locs hw (hP : va_P G vwCl [(a_0, .inr (12, [.int i_0, .ref a_1, .ref a_2, .ref a_3, .ref a_4, .ref a_5, .int i_1, .int n5, .int n6, .int n7, .int n8, .long n9, .int i_6, .int i_7, .int i_8, .int i_9, .ref a_6, .ref a_7, .ref a_8, .ref a_9, .ref a_10, .ref a_11, .ref a_12, .ref a_13, .ref a_14, .ref a_15, .ref a_16, .ref a_17, .ref a_18, .int i_10, .int i_11, .int i_12, .int i_13, .int i_14, .int i_15, .ref a_19, .int i_16, .ref a_20])), (a_5, .inl (cy 0, 600, .inl f_0))] H) (hD : va_D A [(a_0, .inr (12, [.int i_0, .ref a_1, .ref a_2, .ref a_3, .ref a_4, .ref a_5, .int i_1, .int n5, .int n6, .int n7, .int n8, .long n9, .int i_6, .int i_7, .int i_8, .int i_9, .ref a_6, .ref a_7, .ref a_8, .ref a_9, .ref a_10, .ref a_11, .ref a_12, .ref a_13, .ref a_14, .ref a_15, .ref a_16, .ref a_17, .ref a_18, .int i_10, .int i_11, .int i_12, .int i_13, .int i_14, .int i_15, .ref a_19, .int i_16, .ref a_20])), (a_5, .inl (cy 0, 600, .inl f_0))]) hS
      obtain ⟨w10, w11, w12, w13, w14, w15, w16⟩ := hw
      replace w13 : (n7 : Int32).toInt ≤ (n5 : Int32).toInt := w13
      replace w14 : (n5 : Int32).toInt ≤ (i_1 : Int32).toInt := w14
      replace w15 : mm_tk n6 n7 n5 := w15
      replace w16 : (i_2 : Int32).toInt ≤ (n7 : Int32).toInt := w16
      refine lv_iconst (v := 1) hx hb dX12_takes_14 (by decide) ?_
      have w17 : (i_4 : Int32).toInt ≤ (n7 : Int32).toInt := (by have := h6; have := w16; omega)
      subst hAe
      rw [hQ]
      exact W.zret (v := 1) hx hb hr rfl (fun t ht hW => ⟨⟨1, (n5, n6, n7, n8, n9), rfl, ⟨w10, w11, w12, w13, w14, w15, w17, (Or.inr rfl)⟩, by rw [ht]; exact hP, hK.warm hW, hD⟩, hS.F ht⟩) hS.2.2 dX12_takes_15
    · exact mm_eqN c4.symm mm_k0 mm_k1 (by decide)

