theorem dX12_asks_0 : decode cX12_asks 0 = .ok (.aload_n 0, 1) := by decide +kernel
theorem dX12_asks_1 : decode cX12_asks 1 = .ok (.lload_n 1, 1) := by decide +kernel
theorem dX12_asks_2 : decode cX12_asks 2 = .ok (.invokevirtual 142, 3) := by decide +kernel
theorem dX12_asks_5 : decode cX12_asks 5 = .ok (.ifCond .ne 8, 3) := by decide +kernel
theorem dX12_asks_8 : decode cX12_asks 8 = .ok (.aload_n 0, 1) := by decide +kernel
theorem dX12_asks_9 : decode cX12_asks 9 = .ok (.iconst 1, 1) := by decide +kernel
theorem dX12_asks_10 : decode cX12_asks 10 = .ok (.invokevirtual 145, 3) := by decide +kernel
theorem dX12_asks_13 : decode cX12_asks 13 = .ok (.return_, 1) := by decide +kernel
theorem dX12_ends_0 : decode cX12_ends 0 = .ok (.aload_n 0, 1) := by decide +kernel
theorem dX12_ends_1 : decode cX12_ends 1 = .ok (.getfield 118, 3) := by decide +kernel
theorem dX12_ends_4 : decode cX12_ends 4 = .ok (.iconst 3, 1) := by decide +kernel
theorem dX12_ends_5 : decode cX12_ends 5 = .ok (.if_icmp .eq 8, 3) := by decide +kernel
theorem dX12_ends_8 : decode cX12_ends 8 = .ok (.aload_n 0, 1) := by decide +kernel
theorem dX12_ends_9 : decode cX12_ends 9 = .ok (.iconst 1, 1) := by decide +kernel
theorem dX12_ends_10 : decode cX12_ends 10 = .ok (.invokevirtual 145, 3) := by decide +kernel
theorem dX12_ends_13 : decode cX12_ends 13 = .ok (.aload_n 0, 1) := by decide +kernel
theorem dX12_ends_14 : decode cX12_ends 14 = .ok (.getfield 129, 3) := by decide +kernel
theorem dX12_ends_17 : decode cX12_ends 17 = .ok (.ifCond .ne 7, 3) := by decide +kernel
theorem dX12_ends_20 : decode cX12_ends 20 = .ok (.aload_n 0, 1) := by decide +kernel
theorem dX12_ends_21 : decode cX12_ends 21 = .ok (.invokevirtual 139, 3) := by decide +kernel
theorem dX12_ends_24 : decode cX12_ends 24 = .ok (.return_, 1) := by decide +kernel
theorem dX12_fails_0 : decode cX12_fails 0 = .ok (.aload_n 0, 1) := by decide +kernel
theorem dX12_fails_1 : decode cX12_fails 1 = .ok (.getfield 129, 3) := by decide +kernel
theorem dX12_fails_4 : decode cX12_fails 4 = .ok (.ifCond .eq 4, 3) := by decide +kernel
theorem dX12_fails_7 : decode cX12_fails 7 = .ok (.return_, 1) := by decide +kernel
theorem dX12_fails_8 : decode cX12_fails 8 = .ok (.aload_n 0, 1) := by decide +kernel
theorem dX12_fails_9 : decode cX12_fails 9 = .ok (.iload_n 1, 1) := by decide +kernel
theorem dX12_fails_10 : decode cX12_fails 10 = .ok (.putfield 129, 3) := by decide +kernel
theorem dX12_fails_13 : decode cX12_fails 13 = .ok (.aload_n 0, 1) := by decide +kernel
theorem dX12_fails_14 : decode cX12_fails 14 = .ok (.aload_n 0, 1) := by decide +kernel
theorem dX12_fails_15 : decode cX12_fails 15 = .ok (.getfield 108, 3) := by decide +kernel
theorem dX12_fails_18 : decode cX12_fails 18 = .ok (.putfield 132, 3) := by decide +kernel
theorem dX12_fails_21 : decode cX12_fails 21 = .ok (.return_, 1) := by decide +kernel
theorem dX12_hasRead_0 : decode cX12_hasRead 0 = .ok (.aload_n 0, 1) := by decide +kernel
theorem dX12_hasRead_1 : decode cX12_hasRead 1 = .ok (.getfield 34, 3) := by decide +kernel
theorem dX12_hasRead_4 : decode cX12_hasRead 4 = .ok (.bipush 24, 2) := by decide +kernel
theorem dX12_hasRead_6 : decode cX12_hasRead 6 = .ok (.iload_n 1, 1) := by decide +kernel
theorem dX12_hasRead_7 : decode cX12_hasRead 7 = .ok (.iadd, 1) := by decide +kernel
theorem dX12_hasRead_8 : decode cX12_hasRead 8 = .ok (.iaload, 1) := by decide +kernel
theorem dX12_hasRead_9 : decode cX12_hasRead 9 = .ok (.ireturn, 1) := by decide +kernel
theorem dX12_isRoom_0 : decode cX12_isRoom 0 = .ok (.iload_n 1, 1) := by decide +kernel
theorem dX12_isRoom_1 : decode cX12_isRoom 1 = .ok (.ifCond .eq 13, 3) := by decide +kernel
theorem dX12_isRoom_4 : decode cX12_isRoom 4 = .ok (.iload_n 2, 1) := by decide +kernel
theorem dX12_isRoom_5 : decode cX12_isRoom 5 = .ok (.iload_n 3, 1) := by decide +kernel
theorem dX12_isRoom_6 : decode cX12_isRoom 6 = .ok (.if_icmp .ne 8, 3) := by decide +kernel
theorem dX12_isRoom_9 : decode cX12_isRoom 9 = .ok (.aload_n 0, 1) := by decide +kernel
theorem dX12_isRoom_10 : decode cX12_isRoom 10 = .ok (.iconst 3, 1) := by decide +kernel
theorem dX12_isRoom_11 : decode cX12_isRoom 11 = .ok (.invokevirtual 145, 3) := by decide +kernel
theorem dX12_isRoom_14 : decode cX12_isRoom 14 = .ok (.iload_n 1, 1) := by decide +kernel
theorem dX12_isRoom_15 : decode cX12_isRoom 15 = .ok (.ifCond .eq 14, 3) := by decide +kernel
theorem dX12_isRoom_18 : decode cX12_isRoom 18 = .ok (.aload_n 0, 1) := by decide +kernel
theorem dX12_isRoom_19 : decode cX12_isRoom 19 = .ok (.getfield 129, 3) := by decide +kernel
theorem dX12_isRoom_22 : decode cX12_isRoom 22 = .ok (.ifCond .ne 7, 3) := by decide +kernel
theorem dX12_isRoom_25 : decode cX12_isRoom 25 = .ok (.aload_n 0, 1) := by decide +kernel
theorem dX12_isRoom_26 : decode cX12_isRoom 26 = .ok (.invokevirtual 139, 3) := by decide +kernel
theorem dX12_isRoom_29 : decode cX12_isRoom 29 = .ok (.iload_n 1, 1) := by decide +kernel
theorem dX12_isRoom_30 : decode cX12_isRoom 30 = .ok (.ifCond .eq 14, 3) := by decide +kernel
theorem dX12_isRoom_33 : decode cX12_isRoom 33 = .ok (.aload_n 0, 1) := by decide +kernel
theorem dX12_isRoom_34 : decode cX12_isRoom 34 = .ok (.getfield 129, 3) := by decide +kernel
theorem dX12_isRoom_37 : decode cX12_isRoom 37 = .ok (.ifCond .ne 7, 3) := by decide +kernel
theorem dX12_isRoom_40 : decode cX12_isRoom 40 = .ok (.iconst 1, 1) := by decide +kernel
theorem dX12_isRoom_41 : decode cX12_isRoom 41 = .ok (.goto 4, 3) := by decide +kernel
theorem dX12_isRoom_44 : decode cX12_isRoom 44 = .ok (.iconst 0, 1) := by decide +kernel
theorem dX12_isRoom_45 : decode cX12_isRoom 45 = .ok (.ireturn, 1) := by decide +kernel
theorem dX12_number_0 : decode cX12_number 0 = .ok (.aload_n 0, 1) := by decide +kernel
theorem dX12_number_1 : decode cX12_number 1 = .ok (.getfield 129, 3) := by decide +kernel
theorem dX12_number_4 : decode cX12_number 4 = .ok (.ifCond .eq 5, 3) := by decide +kernel
theorem dX12_number_7 : decode cX12_number 7 = .ok (.iload_n 1, 1) := by decide +kernel
theorem dX12_number_8 : decode cX12_number 8 = .ok (.ireturn, 1) := by decide +kernel
theorem dX12_number_9 : decode cX12_number 9 = .ok (.aload_n 0, 1) := by decide +kernel
theorem dX12_number_10 : decode cX12_number 10 = .ok (.getfield 118, 3) := by decide +kernel
theorem dX12_number_13 : decode cX12_number 13 = .ok (.iconst 2, 1) := by decide +kernel
theorem dX12_number_14 : decode cX12_number 14 = .ok (.if_icmp .eq 10, 3) := by decide +kernel
theorem dX12_number_17 : decode cX12_number 17 = .ok (.aload_n 0, 1) := by decide +kernel
theorem dX12_number_18 : decode cX12_number 18 = .ok (.iconst 1, 1) := by decide +kernel
theorem dX12_number_19 : decode cX12_number 19 = .ok (.invokevirtual 145, 3) := by decide +kernel
theorem dX12_number_22 : decode cX12_number 22 = .ok (.iload_n 1, 1) := by decide +kernel
theorem dX12_number_23 : decode cX12_number 23 = .ok (.ireturn, 1) := by decide +kernel
theorem dX12_number_24 : decode cX12_number 24 = .ok (.aload_n 0, 1) := by decide +kernel
theorem dX12_number_25 : decode cX12_number 25 = .ok (.getfield 111, 3) := by decide +kernel
theorem dX12_number_28 : decode cX12_number 28 = .ok (.i2l, 1) := by decide +kernel
theorem dX12_number_29 : decode cX12_number 29 = .ok (.iload_n 1, 1) := by decide +kernel
theorem dX12_number_30 : decode cX12_number 30 = .ok (.i2l, 1) := by decide +kernel
theorem dX12_number_31 : decode cX12_number 31 = .ok (.iload_n 2, 1) := by decide +kernel
theorem dX12_number_32 : decode cX12_number 32 = .ok (.i2l, 1) := by decide +kernel
theorem dX12_number_33 : decode cX12_number 33 = .ok (.invokestatic 82, 3) := by decide +kernel
theorem dX12_number_36 : decode cX12_number 36 = .ok (.ifCond .ne 10, 3) := by decide +kernel
theorem dX12_number_39 : decode cX12_number 39 = .ok (.aload_n 0, 1) := by decide +kernel
theorem dX12_number_40 : decode cX12_number 40 = .ok (.iconst 2, 1) := by decide +kernel
theorem dX12_number_41 : decode cX12_number 41 = .ok (.invokevirtual 145, 3) := by decide +kernel
theorem dX12_number_44 : decode cX12_number 44 = .ok (.iload_n 1, 1) := by decide +kernel
theorem dX12_number_45 : decode cX12_number 45 = .ok (.ireturn, 1) := by decide +kernel
theorem dX12_number_46 : decode cX12_number 46 = .ok (.aload_n 0, 1) := by decide +kernel
theorem dX12_number_47 : decode cX12_number 47 = .ok (.getfield 111, 3) := by decide +kernel
theorem dX12_number_50 : decode cX12_number 50 = .ok (.istore_n 3, 1) := by decide +kernel
theorem dX12_number_51 : decode cX12_number 51 = .ok (.aload_n 0, 1) := by decide +kernel
theorem dX12_number_52 : decode cX12_number 52 = .ok (.invokevirtual 139, 3) := by decide +kernel
theorem dX12_number_55 : decode cX12_number 55 = .ok (.iload_n 3, 1) := by decide +kernel
theorem dX12_number_56 : decode cX12_number 56 = .ok (.ireturn, 1) := by decide +kernel
theorem dX12_number__0 : decode cX12_number_ 0 = .ok (.aload_n 0, 1) := by decide +kernel
theorem dX12_number__1 : decode cX12_number_ 1 = .ok (.lload_n 1, 1) := by decide +kernel
theorem dX12_number__2 : decode cX12_number_ 2 = .ok (.invokevirtual 148, 3) := by decide +kernel
theorem dX12_number__5 : decode cX12_number_ 5 = .ok (.aload_n 0, 1) := by decide +kernel
theorem dX12_number__6 : decode cX12_number_ 6 = .ok (.iload_n 3, 1) := by decide +kernel
theorem dX12_number__7 : decode cX12_number_ 7 = .ok (.iload 4, 2) := by decide +kernel
theorem dX12_number__9 : decode cX12_number_ 9 = .ok (.invokevirtual 152, 3) := by decide +kernel
theorem dX12_number__12 : decode cX12_number_ 12 = .ok (.ireturn, 1) := by decide +kernel
theorem dX12_otherWord_0 : decode cX12_otherWord 0 = .ok (.aload_n 0, 1) := by decide +kernel
theorem dX12_otherWord_1 : decode cX12_otherWord 1 = .ok (.getfield 129, 3) := by decide +kernel
theorem dX12_otherWord_4 : decode cX12_otherWord 4 = .ok (.ifCond .ne 32, 3) := by decide +kernel
theorem dX12_otherWord_7 : decode cX12_otherWord 7 = .ok (.aload_n 0, 1) := by decide +kernel
theorem dX12_otherWord_8 : decode cX12_otherWord 8 = .ok (.getfield 118, 3) := by decide +kernel
theorem dX12_otherWord_11 : decode cX12_otherWord 11 = .ok (.iconst 2, 1) := by decide +kernel
theorem dX12_otherWord_12 : decode cX12_otherWord 12 = .ok (.if_icmp .ne 24, 3) := by decide +kernel
theorem dX12_otherWord_15 : decode cX12_otherWord 15 = .ok (.aload_n 0, 1) := by decide +kernel
theorem dX12_otherWord_16 : decode cX12_otherWord 16 = .ok (.getfield 111, 3) := by decide +kernel
theorem dX12_otherWord_19 : decode cX12_otherWord 19 = .ok (.iload_n 1, 1) := by decide +kernel
theorem dX12_otherWord_20 : decode cX12_otherWord 20 = .ok (.if_icmp .eq 11, 3) := by decide +kernel
theorem dX12_otherWord_23 : decode cX12_otherWord 23 = .ok (.aload_n 0, 1) := by decide +kernel
theorem dX12_otherWord_24 : decode cX12_otherWord 24 = .ok (.getfield 111, 3) := by decide +kernel
theorem dX12_otherWord_27 : decode cX12_otherWord 27 = .ok (.iload_n 2, 1) := by decide +kernel
theorem dX12_otherWord_28 : decode cX12_otherWord 28 = .ok (.if_icmp .ne 8, 3) := by decide +kernel
theorem dX12_otherWord_31 : decode cX12_otherWord 31 = .ok (.aload_n 0, 1) := by decide +kernel
theorem dX12_otherWord_32 : decode cX12_otherWord 32 = .ok (.iconst 2, 1) := by decide +kernel
theorem dX12_otherWord_33 : decode cX12_otherWord 33 = .ok (.invokevirtual 145, 3) := by decide +kernel
theorem dX12_otherWord_36 : decode cX12_otherWord 36 = .ok (.aload_n 0, 1) := by decide +kernel
theorem dX12_otherWord_37 : decode cX12_otherWord 37 = .ok (.invokevirtual 177, 3) := by decide +kernel
theorem dX12_otherWord_40 : decode cX12_otherWord 40 = .ok (.ireturn, 1) := by decide +kernel
theorem dX12_rulesRead_0 : decode cX12_rulesRead 0 = .ok (.aload_n 0, 1) := by decide +kernel
theorem dX12_rulesRead_1 : decode cX12_rulesRead 1 = .ok (.iconst 3, 1) := by decide +kernel
theorem dX12_rulesRead_2 : decode cX12_rulesRead 2 = .ok (.invokevirtual 159, 3) := by decide +kernel
theorem dX12_rulesRead_5 : decode cX12_rulesRead 5 = .ok (.ifCond .ne 7, 3) := by decide +kernel
theorem dX12_rulesRead_8 : decode cX12_rulesRead 8 = .ok (.iconst 0, 1) := by decide +kernel
theorem dX12_rulesRead_9 : decode cX12_rulesRead 9 = .ok (.goto 18, 3) := by decide +kernel
theorem dX12_rulesRead_12 : decode cX12_rulesRead 12 = .ok (.aload_n 0, 1) := by decide +kernel
theorem dX12_rulesRead_13 : decode cX12_rulesRead 13 = .ok (.getfield 40, 3) := by decide +kernel
theorem dX12_rulesRead_16 : decode cX12_rulesRead 16 = .ok (.bipush 12, 2) := by decide +kernel
theorem dX12_rulesRead_18 : decode cX12_rulesRead 18 = .ok (.aload_n 0, 1) := by decide +kernel
theorem dX12_rulesRead_19 : decode cX12_rulesRead 19 = .ok (.iconst 3, 1) := by decide +kernel
theorem dX12_rulesRead_20 : decode cX12_rulesRead 20 = .ok (.invokevirtual 159, 3) := by decide +kernel
theorem dX12_rulesRead_23 : decode cX12_rulesRead 23 = .ok (.iadd, 1) := by decide +kernel
theorem dX12_rulesRead_24 : decode cX12_rulesRead 24 = .ok (.iconst 1, 1) := by decide +kernel
theorem dX12_rulesRead_25 : decode cX12_rulesRead 25 = .ok (.isub, 1) := by decide +kernel
theorem dX12_rulesRead_26 : decode cX12_rulesRead 26 = .ok (.iaload, 1) := by decide +kernel
theorem dX12_rulesRead_27 : decode cX12_rulesRead 27 = .ok (.ireturn, 1) := by decide +kernel
theorem dX12_textLine_0 : decode cX12_textLine 0 = .ok (.bipush 24, 2) := by decide +kernel
theorem dX12_textLine_2 : decode cX12_textLine 2 = .ok (.aload_n 0, 1) := by decide +kernel
theorem dX12_textLine_3 : decode cX12_textLine 3 = .ok (.iconst 4, 1) := by decide +kernel
theorem dX12_textLine_4 : decode cX12_textLine 4 = .ok (.invokevirtual 159, 3) := by decide +kernel
theorem dX12_textLine_7 : decode cX12_textLine 7 = .ok (.iadd, 1) := by decide +kernel
theorem dX12_textLine_8 : decode cX12_textLine 8 = .ok (.istore_n 1, 1) := by decide +kernel
theorem dX12_textLine_9 : decode cX12_textLine 9 = .ok (.aload_n 0, 1) := by decide +kernel
theorem dX12_textLine_10 : decode cX12_textLine 10 = .ok (.getfield 46, 3) := by decide +kernel
theorem dX12_textLine_13 : decode cX12_textLine 13 = .ok (.iload_n 1, 1) := by decide +kernel
theorem dX12_textLine_14 : decode cX12_textLine 14 = .ok (.iconst 0, 1) := by decide +kernel
theorem dX12_textLine_15 : decode cX12_textLine 15 = .ok (.iastore, 1) := by decide +kernel
theorem dX12_textLine_16 : decode cX12_textLine 16 = .ok (.aload_n 0, 1) := by decide +kernel
theorem dX12_textLine_17 : decode cX12_textLine 17 = .ok (.invokevirtual 177, 3) := by decide +kernel
theorem dX12_textLine_20 : decode cX12_textLine 20 = .ok (.istore_n 2, 1) := by decide +kernel
theorem dX12_textLine_21 : decode cX12_textLine 21 = .ok (.aload_n 0, 1) := by decide +kernel
theorem dX12_textLine_22 : decode cX12_textLine 22 = .ok (.getfield 129, 3) := by decide +kernel
theorem dX12_textLine_25 : decode cX12_textLine 25 = .ok (.ifCond .ne 81, 3) := by decide +kernel
theorem dX12_textLine_28 : decode cX12_textLine 28 = .ok (.aload_n 0, 1) := by decide +kernel
theorem dX12_textLine_29 : decode cX12_textLine 29 = .ok (.getfield 49, 3) := by decide +kernel
theorem dX12_textLine_32 : decode cX12_textLine 32 = .ok (.bipush 8, 2) := by decide +kernel
theorem dX12_textLine_34 : decode cX12_textLine 34 = .ok (.iload_n 1, 1) := by decide +kernel
theorem dX12_textLine_35 : decode cX12_textLine 35 = .ok (.imul, 1) := by decide +kernel
theorem dX12_textLine_36 : decode cX12_textLine 36 = .ok (.aload_n 0, 1) := by decide +kernel
theorem dX12_textLine_37 : decode cX12_textLine 37 = .ok (.getfield 46, 3) := by decide +kernel
theorem dX12_textLine_40 : decode cX12_textLine 40 = .ok (.iload_n 1, 1) := by decide +kernel
theorem dX12_textLine_41 : decode cX12_textLine 41 = .ok (.iaload, 1) := by decide +kernel
theorem dX12_textLine_42 : decode cX12_textLine 42 = .ok (.iadd, 1) := by decide +kernel
theorem dX12_textLine_43 : decode cX12_textLine 43 = .ok (.iload_n 2, 1) := by decide +kernel
theorem dX12_textLine_44 : decode cX12_textLine 44 = .ok (.iastore, 1) := by decide +kernel
theorem dX12_textLine_45 : decode cX12_textLine 45 = .ok (.aload_n 0, 1) := by decide +kernel
theorem dX12_textLine_46 : decode cX12_textLine 46 = .ok (.getfield 46, 3) := by decide +kernel
theorem dX12_textLine_49 : decode cX12_textLine 49 = .ok (.iload_n 1, 1) := by decide +kernel
theorem dX12_textLine_50 : decode cX12_textLine 50 = .ok (.dup2, 1) := by decide +kernel
theorem dX12_textLine_51 : decode cX12_textLine 51 = .ok (.iaload, 1) := by decide +kernel
theorem dX12_textLine_52 : decode cX12_textLine 52 = .ok (.iconst 1, 1) := by decide +kernel
theorem dX12_textLine_53 : decode cX12_textLine 53 = .ok (.iadd, 1) := by decide +kernel
theorem dX12_textLine_54 : decode cX12_textLine 54 = .ok (.iastore, 1) := by decide +kernel
theorem dX12_textLine_55 : decode cX12_textLine 55 = .ok (.aload_n 0, 1) := by decide +kernel
theorem dX12_textLine_56 : decode cX12_textLine 56 = .ok (.getfield 118, 3) := by decide +kernel
theorem dX12_textLine_59 : decode cX12_textLine 59 = .ok (.iconst 2, 1) := by decide +kernel
theorem dX12_textLine_60 : decode cX12_textLine 60 = .ok (.if_icmp .eq 6, 3) := by decide +kernel
theorem dX12_textLine_63 : decode cX12_textLine 63 = .ok (.goto 43, 3) := by decide +kernel
theorem dX12_textLine_66 : decode cX12_textLine 66 = .ok (.aload_n 0, 1) := by decide +kernel
theorem dX12_textLine_67 : decode cX12_textLine 67 = .ok (.getfield 46, 3) := by decide +kernel
theorem dX12_textLine_70 : decode cX12_textLine 70 = .ok (.iload_n 1, 1) := by decide +kernel
theorem dX12_textLine_71 : decode cX12_textLine 71 = .ok (.iaload, 1) := by decide +kernel
theorem dX12_textLine_72 : decode cX12_textLine 72 = .ok (.bipush 8, 2) := by decide +kernel
theorem dX12_textLine_74 : decode cX12_textLine 74 = .ok (.if_icmp .ne 24, 3) := by decide +kernel
theorem dX12_textLine_77 : decode cX12_textLine 77 = .ok (.aload_n 0, 1) := by decide +kernel
theorem dX12_textLine_78 : decode cX12_textLine 78 = .ok (.aload_n 0, 1) := by decide +kernel
theorem dX12_textLine_79 : decode cX12_textLine 79 = .ok (.getfield 111, 3) := by decide +kernel
theorem dX12_textLine_82 : decode cX12_textLine 82 = .ok (.aload_n 0, 1) := by decide +kernel
theorem dX12_textLine_83 : decode cX12_textLine 83 = .ok (.iconst 2, 1) := by decide +kernel
theorem dX12_textLine_84 : decode cX12_textLine 84 = .ok (.invokevirtual 159, 3) := by decide +kernel
theorem dX12_textLine_87 : decode cX12_textLine 87 = .ok (.if_icmp .gt 7, 3) := by decide +kernel
theorem dX12_textLine_90 : decode cX12_textLine 90 = .ok (.iconst 3, 1) := by decide +kernel
theorem dX12_textLine_91 : decode cX12_textLine 91 = .ok (.goto 4, 3) := by decide +kernel
theorem dX12_textLine_94 : decode cX12_textLine 94 = .ok (.iconst 2, 1) := by decide +kernel
theorem dX12_textLine_95 : decode cX12_textLine 95 = .ok (.invokevirtual 145, 3) := by decide +kernel
theorem dX12_textLine_98 : decode cX12_textLine 98 = .ok (.aload_n 0, 1) := by decide +kernel
theorem dX12_textLine_99 : decode cX12_textLine 99 = .ok (.invokevirtual 177, 3) := by decide +kernel
theorem dX12_textLine_102 : decode cX12_textLine 102 = .ok (.istore_n 2, 1) := by decide +kernel
theorem dX12_textLine_103 : decode cX12_textLine 103 = .ok (.goto (-82), 3) := by decide +kernel
theorem dX12_textLine_106 : decode cX12_textLine 106 = .ok (.aload_n 0, 1) := by decide +kernel
theorem dX12_textLine_107 : decode cX12_textLine 107 = .ok (.iconst 4, 1) := by decide +kernel
theorem dX12_textLine_108 : decode cX12_textLine 108 = .ok (.aload_n 0, 1) := by decide +kernel
theorem dX12_textLine_109 : decode cX12_textLine 109 = .ok (.iconst 4, 1) := by decide +kernel
theorem dX12_textLine_110 : decode cX12_textLine 110 = .ok (.invokevirtual 159, 3) := by decide +kernel
theorem dX12_textLine_113 : decode cX12_textLine 113 = .ok (.iconst 1, 1) := by decide +kernel
theorem dX12_textLine_114 : decode cX12_textLine 114 = .ok (.iadd, 1) := by decide +kernel
theorem dX12_textLine_115 : decode cX12_textLine 115 = .ok (.invokevirtual 173, 3) := by decide +kernel
theorem dX12_textLine_118 : decode cX12_textLine 118 = .ok (.return_, 1) := by decide +kernel
theorem dX12_wordHere_0 : decode cX12_wordHere 0 = .ok (.aload_n 0, 1) := by decide +kernel
theorem dX12_wordHere_1 : decode cX12_wordHere 1 = .ok (.iconst 0, 1) := by decide +kernel
theorem dX12_wordHere_2 : decode cX12_wordHere 2 = .ok (.aload_n 0, 1) := by decide +kernel
theorem dX12_wordHere_3 : decode cX12_wordHere 3 = .ok (.iconst 2, 1) := by decide +kernel
theorem dX12_wordHere_4 : decode cX12_wordHere 4 = .ok (.invokevirtual 159, 3) := by decide +kernel
theorem dX12_wordHere_7 : decode cX12_wordHere 7 = .ok (.invokevirtual 152, 3) := by decide +kernel
theorem dX12_wordHere_10 : decode cX12_wordHere 10 = .ok (.ireturn, 1) := by decide +kernel
theorem mm_kl99 : mm_rl 99 99 99 := ⟨by decide, by decide⟩
theorem hd_X12_asks : yX12_asks.cls = RX12 ∧ yX12_asks.cls ≠ "java/lang/invoke/MethodHandle" ∧ yX12_asks.cls ≠ "java/lang/invoke/VarHandle" ∧ (parseMethodDescriptor yX12_asks.desc).map (fun d => d.parameters.length) = some 1 := by decide +kernel
theorem hd_X12_fails : yX12_fails.cls = RX12 ∧ yX12_fails.cls ≠ "java/lang/invoke/MethodHandle" ∧ yX12_fails.cls ≠ "java/lang/invoke/VarHandle" ∧ (parseMethodDescriptor yX12_fails.desc).map (fun d => d.parameters.length) = some 1 := by decide +kernel
theorem hd_X12_hasRead : yX12_hasRead.cls = RX12 ∧ yX12_hasRead.cls ≠ "java/lang/invoke/MethodHandle" ∧ yX12_hasRead.cls ≠ "java/lang/invoke/VarHandle" ∧ (parseMethodDescriptor yX12_hasRead.desc).map (fun d => d.parameters.length) = some 1 := by decide +kernel
theorem hd_X12_number : yX12_number.cls = RX12 ∧ yX12_number.cls ≠ "java/lang/invoke/MethodHandle" ∧ yX12_number.cls ≠ "java/lang/invoke/VarHandle" ∧ (parseMethodDescriptor yX12_number.desc).map (fun d => d.parameters.length) = some 2 := by decide +kernel
theorem hd_X12_takes : yX12_takes.cls = RX12 ∧ yX12_takes.cls ≠ "java/lang/invoke/MethodHandle" ∧ yX12_takes.cls ≠ "java/lang/invoke/VarHandle" ∧ (parseMethodDescriptor yX12_takes.desc).map (fun d => d.parameters.length) = some 1 := by decide +kernel
theorem hd_X12_wordHere : yX12_wordHere.cls = RX12 ∧ yX12_wordHere.cls ≠ "java/lang/invoke/MethodHandle" ∧ yX12_wordHere.cls ≠ "java/lang/invoke/VarHandle" ∧ (parseMethodDescriptor yX12_wordHere.desc).map (fun d => d.parameters.length) = some 0 := by decide +kernel
set_option maxHeartbeats 4000000 in
set_option maxRecDepth 100000 in
theorem M27_X12_fails (l : Launch) (G : va_G) (cy : Nat → ClassId) (sz : Nat) (a_0 : Nat) (i_0 : Int32) (a_1 : Nat) (a_2 : Nat) (a_3 : Nat) (a_4 : Nat) (a_5 : Nat) (i_1 : Int32) (i_2 : Int32) (i_3 : Int32) (i_4 : Int32) (i_5 : Int32) (j_0 : Int64) (i_6 : Int32) (i_7 : Int32) (i_8 : Int32) (i_9 : Int32) (a_6 : Nat) (a_7 : Nat) (a_8 : Nat) (a_9 : Nat) (a_10 : Nat) (a_11 : Nat) (a_12 : Nat) (a_13 : Nat) (a_14 : Nat) (a_15 : Nat) (a_16 : Nat) (a_17 : Nat) (a_18 : Nat) (i_10 : Int32) (i_11 : Int32) (i_12 : Int32) (i_13 : Int32) (i_14 : Int32) (i_15 : Int32) (a_19 : Nat) (i_16 : Int32) (a_20 : Nat) (h0 : mm_rg i_4 0 600) (h1 : mm_rg i_6 0 3)  : mm_CV l yX12_fails (mm_ws yX12_fails cX12_fails 2 (none)) ({ frames := 0, cells := 0, slots := 0, locals := 0 } : Room) G cy sz [(a_0, .inr (12, [.int i_0, .ref a_1, .ref a_2, .ref a_3, .ref a_4, .ref a_5, .int i_1, .int i_2, .int i_3, .int i_4, .int i_5, .long j_0, .int i_6, .int i_7, .int i_8, .int i_9, .ref a_6, .ref a_7, .ref a_8, .ref a_9, .ref a_10, .ref a_11, .ref a_12, .ref a_13, .ref a_14, .ref a_15, .ref a_16, .ref a_17, .ref a_18, .int i_10, .int i_11, .int i_12, .int i_13, .int i_14, .int i_15, .ref a_19, .int i_16, .ref a_20]))] [.ref a_0, .int 1] (fun u : Int32 × Int32 => [(a_0, .inr (12, [.int i_0, .ref a_1, .ref a_2, .ref a_3, .ref a_4, .ref a_5, .int i_1, .int i_2, .int i_3, .int i_4, .int i_5, .long j_0, .int u.1, .int u.2, .int i_8, .int i_9, .ref a_6, .ref a_7, .ref a_8, .ref a_9, .ref a_10, .ref a_11, .ref a_12, .ref a_13, .ref a_14, .ref a_15, .ref a_16, .ref a_17, .ref a_18, .int i_10, .int i_11, .int i_12, .int i_13, .int i_14, .int i_15, .ref a_19, .int i_16, .ref a_20]))]) (fun u : Int32 × Int32 => mm_rg u.1 1 3) 0 0 := by
  refine mm_begin (lv := [(0, .ref a_0), (1, .int 1)]) (by decide) (Nat.le_of_ble_eq_true rfl) rfl ?_
  intro p e s m below meth c A ls R args Q H locs hRe hQ hAe hx hb hr hlocks hml hown hnm hts hsz hA hS hP hK hD hZ hl
  have hRf : R.frames = 0 := by rw [hRe]
  have hRl : R.locals = 0 := by rw [hRe]
  have hRc : R.cells = 0 := by rw [hRe]
  have hRs : R.slots = 0 := by rw [hRe]
  refine lv_aload_n hx hb dX12_fails_0 rfl (lv_at hl 0 rfl) ?_
  refine va_get (D := G) (ci := 12) (v := .int i_6) (C := RX12) (T := TX12) (N := 38) hx hb hts (mm_i inlX12) hown hK.1 hP 0 rfl rfl 12 (by decide) (mm_h hts mm_w436) (fun _ h9 => h9) rfl dX12_fails_1 ?_
  refine lv_if_eq (tgt := 8) hx hb dX12_fails_4 (by decide) (fun c1 => ?_) (fun c1 => ?_)
  · have q2 := mm_eqI (lo := 0) (hi := 0) c1 h1 mm_k0 (by decide)
    refine lv_aload_n hx hb dX12_fails_8 rfl (lv_at hl 0 rfl) ?_
    refine lv_iload_n hx hb dX12_fails_9 rfl (lv_at hl 1 rfl) ?_
    refine va_put (D := G) (ci := 12) (v := .int 1) (ty := tyX12 12) (C := RX12) (T := TX12) (N := 38) hx hb hts (mm_i inlX12) tyX12 tyX12_ok nmX12 hown hK.1 hP hD hS 0 rfl rfl 12 (by decide) (mm_h hts mm_w436) (fun _ h9 => h9) rfl (tyX12_ok 12 (by decide)) rfl rfl (Nat.le_of_ble_eq_true rfl) dX12_fails_10 ?_
    clear hP hD hS
    clear H locs
    intro H locs (hP : va_P G vwCl [(a_0, .inr (12, [.int i_0, .ref a_1, .ref a_2, .ref a_3, .ref a_4, .ref a_5, .int i_1, .int i_2, .int i_3, .int i_4, .int i_5, .long j_0, .int 1, .int i_7, .int i_8, .int i_9, .ref a_6, .ref a_7, .ref a_8, .ref a_9, .ref a_10, .ref a_11, .ref a_12, .ref a_13, .ref a_14, .ref a_15, .ref a_16, .ref a_17, .ref a_18, .int i_10, .int i_11, .int i_12, .int i_13, .int i_14, .int i_15, .ref a_19, .int i_16, .ref a_20]))] H) (hD : va_D A [(a_0, .inr (12, [.int i_0, .ref a_1, .ref a_2, .ref a_3, .ref a_4, .ref a_5, .int i_1, .int i_2, .int i_3, .int i_4, .int i_5, .long j_0, .int 1, .int i_7, .int i_8, .int i_9, .ref a_6, .ref a_7, .ref a_8, .ref a_9, .ref a_10, .ref a_11, .ref a_12, .ref a_13, .ref a_14, .ref a_15, .ref a_16, .ref a_17, .ref a_18, .int i_10, .int i_11, .int i_12, .int i_13, .int i_14, .int i_15, .ref a_19, .int i_16, .ref a_20]))]) hS
    refine lv_aload_n hx hb dX12_fails_13 rfl (lv_at hl 0 rfl) ?_
    refine lv_aload_n hx hb dX12_fails_14 rfl (lv_at hl 0 rfl) ?_
    refine va_get (D := G) (ci := 12) (v := .int i_4) (C := RX12) (T := TX12) (N := 38) hx hb hts (mm_i inlX12) hown hK.1 hP 0 rfl rfl 9 (by decide) (mm_h hts mm_w455) (fun _ h9 => h9) rfl dX12_fails_15 ?_
    refine va_put (D := G) (ci := 12) (v := .int i_4) (ty := tyX12 13) (C := RX12) (T := TX12) (N := 38) hx hb hts (mm_i inlX12) tyX12 tyX12_ok nmX12 hown hK.1 hP hD hS 0 rfl rfl 13 (by decide) (mm_h hts mm_w449) (fun _ h9 => h9) rfl (tyX12_ok 13 (by decide)) rfl rfl (Nat.le_of_ble_eq_true rfl) dX12_fails_18 ?_
    clear hP hD hS
    clear H locs
    intro H locs (hP : va_P G vwCl [(a_0, .inr (12, [.int i_0, .ref a_1, .ref a_2, .ref a_3, .ref a_4, .ref a_5, .int i_1, .int i_2, .int i_3, .int i_4, .int i_5, .long j_0, .int 1, .int i_4, .int i_8, .int i_9, .ref a_6, .ref a_7, .ref a_8, .ref a_9, .ref a_10, .ref a_11, .ref a_12, .ref a_13, .ref a_14, .ref a_15, .ref a_16, .ref a_17, .ref a_18, .int i_10, .int i_11, .int i_12, .int i_13, .int i_14, .int i_15, .ref a_19, .int i_16, .ref a_20]))] H) (hD : va_D A [(a_0, .inr (12, [.int i_0, .ref a_1, .ref a_2, .ref a_3, .ref a_4, .ref a_5, .int i_1, .int i_2, .int i_3, .int i_4, .int i_5, .long j_0, .int 1, .int i_4, .int i_8, .int i_9, .ref a_6, .ref a_7, .ref a_8, .ref a_9, .ref a_10, .ref a_11, .ref a_12, .ref a_13, .ref a_14, .ref a_15, .ref a_16, .ref a_17, .ref a_18, .int i_10, .int i_11, .int i_12, .int i_13, .int i_14, .int i_15, .ref a_19, .int i_16, .ref a_20]))]) hS
    subst hAe
    rw [hQ]
    exact W.vret hx hb hr (fun t ht hW => ⟨⟨(1, i_4), rfl, (mm_wk mm_k1 (by decide)), by rw [ht]; exact hP, hK.warm hW, hD⟩, hS.F ht⟩) hS.2.2 dX12_fails_21
  · have q3 := mm_neL (lo := 1) (mm_ne c1) h1 mm_k0 (by decide) (by decide)
    subst hAe
    rw [hQ]
    exact W.vret hx hb hr (fun t ht hW => ⟨⟨(i_6, i_7), rfl, q3, by rw [ht]; exact hP, hK.warm hW, hD⟩, hS.F ht⟩) hS.2.2 dX12_fails_7

set_option maxHeartbeats 4000000 in
set_option maxRecDepth 100000 in
theorem M28_X12_asks (l : Launch) (G : va_G) (cy : Nat → ClassId) (sz : Nat) (a_0 : Nat) (j_0 : Int64) (i_0 : Int32) (a_1 : Nat) (a_2 : Nat) (a_3 : Nat) (a_4 : Nat) (a_5 : Nat) (i_1 : Int32) (i_2 : Int32) (i_3 : Int32) (i_4 : Int32) (i_5 : Int32) (j_1 : Int64) (i_6 : Int32) (i_7 : Int32) (i_8 : Int32) (i_9 : Int32) (a_6 : Nat) (a_7 : Nat) (a_8 : Nat) (a_9 : Nat) (a_10 : Nat) (a_11 : Nat) (a_12 : Nat) (a_13 : Nat) (a_14 : Nat) (a_15 : Nat) (a_16 : Nat) (a_17 : Nat) (a_18 : Nat) (i_10 : Int32) (i_11 : Int32) (i_12 : Int32) (i_13 : Int32) (i_14 : Int32) (i_15 : Int32) (a_19 : Nat) (i_16 : Int32) (a_20 : Nat) (f_0 : Nat → Int32) (h0 : mm_rg i_1 0 600) (h1 : mm_rg i_2 0 600) (h2 : mm_rg i_3 0 4) (h3 : mm_rg i_4 0 600) (h4 : mm_rg i_6 0 3) (h5 : mm_ar f_0 (-128) 127) (h6 : (i_4 : Int32).toInt ≤ (i_2 : Int32).toInt) (h7 : (i_2 : Int32).toInt ≤ (i_1 : Int32).toInt) (h8 : mm_tk i_3 i_4 i_2)  : mm_CV l yX12_asks (mm_ws yX12_asks cX12_asks 3 (none)) ({ frames := 3, cells := 0, slots := 0, locals := 66 } : Room) G cy sz [(a_0, .inr (12, [.int i_0, .ref a_1, .ref a_2, .ref a_3, .ref a_4, .ref a_5, .int i_1, .int i_2, .int i_3, .int i_4, .int i_5, .long j_1, .int i_6, .int i_7, .int i_8, .int i_9, .ref a_6, .ref a_7, .ref a_8, .ref a_9, .ref a_10, .ref a_11, .ref a_12, .ref a_13, .ref a_14, .ref a_15, .ref a_16, .ref a_17, .ref a_18, .int i_10, .int i_11, .int i_12, .int i_13, .int i_14, .int i_15, .ref a_19, .int i_16, .ref a_20])), (a_5, .inl (cy 0, 600, .inl f_0))] [.ref a_0, .long j_0] (fun u : Int32 × Int32 × Int32 × Int32 × Int64 × Int32 × Int32 => [(a_0, .inr (12, [.int i_0, .ref a_1, .ref a_2, .ref a_3, .ref a_4, .ref a_5, .int i_1, .int u.1, .int u.2.1, .int u.2.2.1, .int u.2.2.2.1, .long u.2.2.2.2.1, .int u.2.2.2.2.2.1, .int u.2.2.2.2.2.2, .int i_8, .int i_9, .ref a_6, .ref a_7, .ref a_8, .ref a_9, .ref a_10, .ref a_11, .ref a_12, .ref a_13, .ref a_14, .ref a_15, .ref a_16, .ref a_17, .ref a_18, .int i_10, .int i_11, .int i_12, .int i_13, .int i_14, .int i_15, .ref a_19, .int i_16, .ref a_20])), (a_5, .inl (cy 0, 600, .inl f_0))]) (fun u : Int32 × Int32 × Int32 × Int32 × Int64 × Int32 × Int32 => mm_rg u.1 0 600 ∧ mm_rg u.2.1 0 4 ∧ mm_rg u.2.2.1 0 600 ∧ mm_rg u.2.2.2.2.2.1 0 3 ∧ (u.2.2.1 : Int32).toInt ≤ (u.1 : Int32).toInt ∧ (u.1 : Int32).toInt ≤ (i_1 : Int32).toInt ∧ mm_tk u.2.1 u.2.2.1 u.1 ∧ (i_4 : Int32).toInt ≤ (u.2.2.1 : Int32).toInt) 0 0 := by
  refine mm_begin (lv := [(0, .ref a_0), (1, .long j_0)]) (by decide) (Nat.le_of_ble_eq_true rfl) rfl ?_
  intro p e s m below meth c A ls R args Q H locs hRe hQ hAe hx hb hr hlocks hml hown hnm hts hsz hA hS hP hK hD hZ hl
  have hRf : R.frames = 3 := by rw [hRe]
  have hRl : R.locals = 66 := by rw [hRe]
  have hRc : R.cells = 0 := by rw [hRe]
  have hRs : R.slots = 0 := by rw [hRe]
  refine lv_aload_n hx hb dX12_asks_0 rfl (lv_at hl 0 rfl) ?_
  refine lv_lload_n hx hb dX12_asks_1 rfl (lv_at hl 1 rfl) ?_
  refine mm_fini (va_runV (As := [.long j_0]) (rest := []) ⟨hx, hb, hml, hown, hts⟩ (M26_X12_takes l G cy H.size a_0 j_0 i_0 a_1 a_2 a_3 a_4 a_5 i_1 i_2 i_3 i_4 i_5 j_1 i_6 i_7 i_8 i_9 a_6 a_7 a_8 a_9 a_10 a_11 a_12 a_13 a_14 a_15 a_16 a_17 a_18 i_10 i_11 i_12 i_13 i_14 i_15 a_19 i_16 a_20 f_0 h0 h1 h2 h3 h4 h5 h6 h7 h8) (cwV 1 hts (mm_gV mm_w475 mm_w476 mm_w477 mm_w5 mm_w478) rfl rfl rfl hd_X12_takes ⟨by rw [hRf]; exact Nat.le_of_ble_eq_true rfl, by rw [hRl]; exact Nat.le_of_ble_eq_true rfl⟩) (mm_preV hK hZ hS hA hP hD [0, 1] rfl rfl 0 rfl rfl rfl) rfl rfl hl.1 rfl (lv_room (Nat.le_of_ble_eq_true rfl)) dX12_asks_2 ⟨by rw [hRc]; exact Nat.le_of_ble_eq_true rfl, by rw [hRs]; exact Nat.le_of_ble_eq_true rfl⟩) hP hD hS hA (fun u : Int32 × Int32 × Int32 × Int32 × Int64 => [(a_0, .inr (12, [.int i_0, .ref a_1, .ref a_2, .ref a_3, .ref a_4, .ref a_5, .int i_1, .int u.1, .int u.2.1, .int u.2.2.1, .int u.2.2.2.1, .long u.2.2.2.2, .int i_6, .int i_7, .int i_8, .int i_9, .ref a_6, .ref a_7, .ref a_8, .ref a_9, .ref a_10, .ref a_11, .ref a_12, .ref a_13, .ref a_14, .ref a_15, .ref a_16, .ref a_17, .ref a_18, .int i_10, .int i_11, .int i_12, .int i_13, .int i_14, .int i_15, .ref a_19, .int i_16, .ref a_20])), (a_5, .inl (cy 0, 600, .inl f_0))]) [0, 1] [] (n := 2) (fun _ => rfl) (by decide +kernel) (by decide +kernel) rfl (fun _ => rfl) (wr := []) rfl (fun _ => rfl) (fun _ => rfl) ?_
  clear hP hD hS
  clear H locs
  intro v6 u
  obtain ⟨n1, n2, n3, n4, n5⟩ := u
  intro H locs hw (hP : va_P G vwCl [(a_0, .inr (12, [.int i_0, .ref a_1, .ref a_2, .ref a_3, .ref a_4, .ref a_5, .int i_1, .int n1, .int n2, .int n3, .int n4, .long n5, .int i_6, .int i_7, .int i_8, .int i_9, .ref a_6, .ref a_7, .ref a_8, .ref a_9, .ref a_10, .ref a_11, .ref a_12, .ref a_13, .ref a_14, .ref a_15, .ref a_16, .ref a_17, .ref a_18, .int i_10, .int i_11, .int i_12, .int i_13, .int i_14, .int i_15, .ref a_19, .int i_16, .ref a_20])), (a_5, .inl (cy 0, 600, .inl f_0))] H) (hD : va_D A [(a_0, .inr (12, [.int i_0, .ref a_1, .ref a_2, .ref a_3, .ref a_4, .ref a_5, .int i_1, .int n1, .int n2, .int n3, .int n4, .long n5, .int i_6, .int i_7, .int i_8, .int i_9, .ref a_6, .ref a_7, .ref a_8, .ref a_9, .ref a_10, .ref a_11, .ref a_12, .ref a_13, .ref a_14, .ref a_15, .ref a_16, .ref a_17, .ref a_18, .int i_10, .int i_11, .int i_12, .int i_13, .int i_14, .int i_15, .ref a_19, .int i_16, .ref a_20])), (a_5, .inl (cy 0, 600, .inl f_0))]) hS
  obtain ⟨w7, w8, w9, w10, w11, w12, w13, hw⟩ := hw
  replace w10 : (n3 : Int32).toInt ≤ (n1 : Int32).toInt := w10
  replace w11 : (n1 : Int32).toInt ≤ (i_1 : Int32).toInt := w11
  replace w12 : mm_tk n2 n3 n1 := w12
  replace w13 : (i_4 : Int32).toInt ≤ (n3 : Int32).toInt := w13
  rcases hw with rfl | rfl
  · refine lv_if_ne (tgt := 13) hx hb dX12_asks_5 (by decide) (fun c14 => ?_) (fun c14 => ?_)
    · exact absurd rfl (mm_ne c14)
    · refine lv_aload_n hx hb dX12_asks_8 rfl (lv_at hl 0 rfl) ?_
      refine lv_iconst (v := 1) hx hb dX12_asks_9 (by decide) ?_
      refine mm_finv (va_runV (As := [.int 1]) (rest := []) ⟨hx, hb, hml, hown, hts⟩ (M27_X12_fails l G cy H.size a_0 i_0 a_1 a_2 a_3 a_4 a_5 i_1 n1 n2 n3 n4 n5 i_6 i_7 i_8 i_9 a_6 a_7 a_8 a_9 a_10 a_11 a_12 a_13 a_14 a_15 a_16 a_17 a_18 i_10 i_11 i_12 i_13 i_14 i_15 a_19 i_16 a_20 w9 h4) (cwV 1 hts (mm_gV mm_w483 mm_w484 mm_w485 mm_w5 mm_w486) rfl rfl rfl hd_X12_fails ⟨by rw [hRf]; exact Nat.le_of_ble_eq_true rfl, by rw [hRl]; exact Nat.le_of_ble_eq_true rfl⟩) (mm_preV hK hZ hS hA hP hD [0] rfl rfl 0 rfl rfl rfl) rfl rfl hl.1 rfl (lv_room (Nat.le_of_ble_eq_true rfl)) dX12_asks_10 ⟨by rw [hRc]; exact Nat.le_of_ble_eq_true rfl, by rw [hRs]; exact Nat.le_of_ble_eq_true rfl⟩) hP hD hS hA (fun u : Int32 × Int32 => [(a_0, .inr (12, [.int i_0, .ref a_1, .ref a_2, .ref a_3, .ref a_4, .ref a_5, .int i_1, .int n1, .int n2, .int n3, .int n4, .long n5, .int u.1, .int u.2, .int i_8, .int i_9, .ref a_6, .ref a_7, .ref a_8, .ref a_9, .ref a_10, .ref a_11, .ref a_12, .ref a_13, .ref a_14, .ref a_15, .ref a_16, .ref a_17, .ref a_18, .int i_10, .int i_11, .int i_12, .int i_13, .int i_14, .int i_15, .ref a_19, .int i_16, .ref a_20])), (a_5, .inl (cy 0, 600, .inl f_0))]) [0] [1] (n := 2) (fun _ => rfl) (by decide +kernel) (by decide +kernel) rfl (fun _ => rfl) (wr := [(a_5, .inl (cy 0, 600, .inl f_0))]) rfl (fun _ => rfl) (fun _ => rfl) ?_
      clear hP hD hS
      clear H locs
      intro u
      obtain ⟨n15, n16⟩ := u
      intro H locs hw (hP : va_P G vwCl [(a_0, .inr (12, [.int i_0, .ref a_1, .ref a_2, .ref a_3, .ref a_4, .ref a_5, .int i_1, .int n1, .int n2, .int n3, .int n4, .long n5, .int n15, .int n16, .int i_8, .int i_9, .ref a_6, .ref a_7, .ref a_8, .ref a_9, .ref a_10, .ref a_11, .ref a_12, .ref a_13, .ref a_14, .ref a_15, .ref a_16, .ref a_17, .ref a_18, .int i_10, .int i_11, .int i_12, .int i_13, .int i_14, .int i_15, .ref a_19, .int i_16, .ref a_20])), (a_5, .inl (cy 0, 600, .inl f_0))] H) (hD : va_D A [(a_0, .inr (12, [.int i_0, .ref a_1, .ref a_2, .ref a_3, .ref a_4, .ref a_5, .int i_1, .int n1, .int n2, .int n3, .int n4, .long n5, .int n15, .int n16, .int i_8, .int i_9, .ref a_6, .ref a_7, .ref a_8, .ref a_9, .ref a_10, .ref a_11, .ref a_12, .ref a_13, .ref a_14, .ref a_15, .ref a_16, .ref a_17, .ref a_18, .int i_10, .int i_11, .int i_12, .int i_13, .int i_14, .int i_15, .ref a_19, .int i_16, .ref a_20])), (a_5, .inl (cy 0, 600, .inl f_0))]) hS
      have w17 := hw
      subst hAe
      rw [hQ]
      exact W.vret hx hb hr (fun t ht hW => ⟨⟨(n1, n2, n3, n4, n5, n15, n16), rfl, ⟨w7, w8, w9, (mm_wk w17 (by decide)), w10, w11, w12, w13⟩, by rw [ht]; exact hP, hK.warm hW, hD⟩, hS.F ht⟩) hS.2.2 dX12_asks_13
  · refine lv_if_ne (tgt := 13) hx hb dX12_asks_5 (by decide) (fun c18 => ?_) (fun c18 => ?_)
    · subst hAe
      rw [hQ]
      exact W.vret hx hb hr (fun t ht hW => ⟨⟨(n1, n2, n3, n4, n5, i_6, i_7), rfl, ⟨w7, w8, w9, h4, w10, w11, w12, w13⟩, by rw [ht]; exact hP, hK.warm hW, hD⟩, hS.F ht⟩) hS.2.2 dX12_asks_13
    · exact mm_eqN c18.symm mm_k0 mm_k1 (by decide)

set_option maxHeartbeats 4000000 in
set_option maxRecDepth 100000 in
theorem M29_X12_fails (l : Launch) (G : va_G) (cy : Nat → ClassId) (sz : Nat) (a_0 : Nat) (i_0 : Int32) (a_1 : Nat) (a_2 : Nat) (a_3 : Nat) (a_4 : Nat) (a_5 : Nat) (i_1 : Int32) (i_2 : Int32) (i_3 : Int32) (i_4 : Int32) (i_5 : Int32) (j_0 : Int64) (i_6 : Int32) (i_7 : Int32) (i_8 : Int32) (i_9 : Int32) (a_6 : Nat) (a_7 : Nat) (a_8 : Nat) (a_9 : Nat) (a_10 : Nat) (a_11 : Nat) (a_12 : Nat) (a_13 : Nat) (a_14 : Nat) (a_15 : Nat) (a_16 : Nat) (a_17 : Nat) (a_18 : Nat) (i_10 : Int32) (i_11 : Int32) (i_12 : Int32) (i_13 : Int32) (i_14 : Int32) (i_15 : Int32) (a_19 : Nat) (i_16 : Int32) (a_20 : Nat) (h0 : mm_rg i_4 0 600) (h1 : mm_rg i_6 0 3)  : mm_CV l yX12_fails (mm_ws yX12_fails cX12_fails 2 (none)) ({ frames := 0, cells := 0, slots := 0, locals := 0 } : Room) G cy sz [(a_0, .inr (12, [.int i_0, .ref a_1, .ref a_2, .ref a_3, .ref a_4, .ref a_5, .int i_1, .int i_2, .int i_3, .int i_4, .int i_5, .long j_0, .int i_6, .int i_7, .int i_8, .int i_9, .ref a_6, .ref a_7, .ref a_8, .ref a_9, .ref a_10, .ref a_11, .ref a_12, .ref a_13, .ref a_14, .ref a_15, .ref a_16, .ref a_17, .ref a_18, .int i_10, .int i_11, .int i_12, .int i_13, .int i_14, .int i_15, .ref a_19, .int i_16, .ref a_20]))] [.ref a_0, .int 2] (fun u : Int32 × Int32 => [(a_0, .inr (12, [.int i_0, .ref a_1, .ref a_2, .ref a_3, .ref a_4, .ref a_5, .int i_1, .int i_2, .int i_3, .int i_4, .int i_5, .long j_0, .int u.1, .int u.2, .int i_8, .int i_9, .ref a_6, .ref a_7, .ref a_8, .ref a_9, .ref a_10, .ref a_11, .ref a_12, .ref a_13, .ref a_14, .ref a_15, .ref a_16, .ref a_17, .ref a_18, .int i_10, .int i_11, .int i_12, .int i_13, .int i_14, .int i_15, .ref a_19, .int i_16, .ref a_20]))]) (fun u : Int32 × Int32 => mm_rg u.1 1 3) 0 0 := by
  refine mm_begin (lv := [(0, .ref a_0), (1, .int 2)]) (by decide) (Nat.le_of_ble_eq_true rfl) rfl ?_
  intro p e s m below meth c A ls R args Q H locs hRe hQ hAe hx hb hr hlocks hml hown hnm hts hsz hA hS hP hK hD hZ hl
  have hRf : R.frames = 0 := by rw [hRe]
  have hRl : R.locals = 0 := by rw [hRe]
  have hRc : R.cells = 0 := by rw [hRe]
  have hRs : R.slots = 0 := by rw [hRe]
  refine lv_aload_n hx hb dX12_fails_0 rfl (lv_at hl 0 rfl) ?_
  refine va_get (D := G) (ci := 12) (v := .int i_6) (C := RX12) (T := TX12) (N := 38) hx hb hts (mm_i inlX12) hown hK.1 hP 0 rfl rfl 12 (by decide) (mm_h hts mm_w436) (fun _ h9 => h9) rfl dX12_fails_1 ?_
  refine lv_if_eq (tgt := 8) hx hb dX12_fails_4 (by decide) (fun c1 => ?_) (fun c1 => ?_)
  · have q2 := mm_eqI (lo := 0) (hi := 0) c1 h1 mm_k0 (by decide)
    refine lv_aload_n hx hb dX12_fails_8 rfl (lv_at hl 0 rfl) ?_
    refine lv_iload_n hx hb dX12_fails_9 rfl (lv_at hl 1 rfl) ?_
    refine va_put (D := G) (ci := 12) (v := .int 2) (ty := tyX12 12) (C := RX12) (T := TX12) (N := 38) hx hb hts (mm_i inlX12) tyX12 tyX12_ok nmX12 hown hK.1 hP hD hS 0 rfl rfl 12 (by decide) (mm_h hts mm_w436) (fun _ h9 => h9) rfl (tyX12_ok 12 (by decide)) rfl rfl (Nat.le_of_ble_eq_true rfl) dX12_fails_10 ?_
    clear hP hD hS
    clear H locs
    intro H locs (hP : va_P G vwCl [(a_0, .inr (12, [.int i_0, .ref a_1, .ref a_2, .ref a_3, .ref a_4, .ref a_5, .int i_1, .int i_2, .int i_3, .int i_4, .int i_5, .long j_0, .int 2, .int i_7, .int i_8, .int i_9, .ref a_6, .ref a_7, .ref a_8, .ref a_9, .ref a_10, .ref a_11, .ref a_12, .ref a_13, .ref a_14, .ref a_15, .ref a_16, .ref a_17, .ref a_18, .int i_10, .int i_11, .int i_12, .int i_13, .int i_14, .int i_15, .ref a_19, .int i_16, .ref a_20]))] H) (hD : va_D A [(a_0, .inr (12, [.int i_0, .ref a_1, .ref a_2, .ref a_3, .ref a_4, .ref a_5, .int i_1, .int i_2, .int i_3, .int i_4, .int i_5, .long j_0, .int 2, .int i_7, .int i_8, .int i_9, .ref a_6, .ref a_7, .ref a_8, .ref a_9, .ref a_10, .ref a_11, .ref a_12, .ref a_13, .ref a_14, .ref a_15, .ref a_16, .ref a_17, .ref a_18, .int i_10, .int i_11, .int i_12, .int i_13, .int i_14, .int i_15, .ref a_19, .int i_16, .ref a_20]))]) hS
    refine lv_aload_n hx hb dX12_fails_13 rfl (lv_at hl 0 rfl) ?_
    refine lv_aload_n hx hb dX12_fails_14 rfl (lv_at hl 0 rfl) ?_
    refine va_get (D := G) (ci := 12) (v := .int i_4) (C := RX12) (T := TX12) (N := 38) hx hb hts (mm_i inlX12) hown hK.1 hP 0 rfl rfl 9 (by decide) (mm_h hts mm_w455) (fun _ h9 => h9) rfl dX12_fails_15 ?_
    refine va_put (D := G) (ci := 12) (v := .int i_4) (ty := tyX12 13) (C := RX12) (T := TX12) (N := 38) hx hb hts (mm_i inlX12) tyX12 tyX12_ok nmX12 hown hK.1 hP hD hS 0 rfl rfl 13 (by decide) (mm_h hts mm_w449) (fun _ h9 => h9) rfl (tyX12_ok 13 (by decide)) rfl rfl (Nat.le_of_ble_eq_true rfl) dX12_fails_18 ?_
    clear hP hD hS
    clear H locs
    intro H locs (hP : va_P G vwCl [(a_0, .inr (12, [.int i_0, .ref a_1, .ref a_2, .ref a_3, .ref a_4, .ref a_5, .int i_1, .int i_2, .int i_3, .int i_4, .int i_5, .long j_0, .int 2, .int i_4, .int i_8, .int i_9, .ref a_6, .ref a_7, .ref a_8, .ref a_9, .ref a_10, .ref a_11, .ref a_12, .ref a_13, .ref a_14, .ref a_15, .ref a_16, .ref a_17, .ref a_18, .int i_10, .int i_11, .int i_12, .int i_13, .int i_14, .int i_15, .ref a_19, .int i_16, .ref a_20]))] H) (hD : va_D A [(a_0, .inr (12, [.int i_0, .ref a_1, .ref a_2, .ref a_3, .ref a_4, .ref a_5, .int i_1, .int i_2, .int i_3, .int i_4, .int i_5, .long j_0, .int 2, .int i_4, .int i_8, .int i_9, .ref a_6, .ref a_7, .ref a_8, .ref a_9, .ref a_10, .ref a_11, .ref a_12, .ref a_13, .ref a_14, .ref a_15, .ref a_16, .ref a_17, .ref a_18, .int i_10, .int i_11, .int i_12, .int i_13, .int i_14, .int i_15, .ref a_19, .int i_16, .ref a_20]))]) hS
    subst hAe
    rw [hQ]
    exact W.vret hx hb hr (fun t ht hW => ⟨⟨(2, i_4), rfl, (mm_wk mm_k2 (by decide)), by rw [ht]; exact hP, hK.warm hW, hD⟩, hS.F ht⟩) hS.2.2 dX12_fails_21
  · have q3 := mm_neL (lo := 1) (mm_ne c1) h1 mm_k0 (by decide) (by decide)
    subst hAe
    rw [hQ]
    exact W.vret hx hb hr (fun t ht hW => ⟨⟨(i_6, i_7), rfl, q3, by rw [ht]; exact hP, hK.warm hW, hD⟩, hS.F ht⟩) hS.2.2 dX12_fails_7

set_option maxHeartbeats 4000000 in
set_option maxRecDepth 100000 in
theorem M30_X12_number (l : Launch) (G : va_G) (cy : Nat → ClassId) (sz : Nat) (a_0 : Nat) (i_0 : Int32) (a_1 : Nat) (a_2 : Nat) (a_3 : Nat) (a_4 : Nat) (a_5 : Nat) (i_1 : Int32) (i_2 : Int32) (i_3 : Int32) (i_4 : Int32) (i_5 : Int32) (j_0 : Int64) (i_6 : Int32) (i_7 : Int32) (i_8 : Int32) (i_9 : Int32) (a_6 : Nat) (a_7 : Nat) (a_8 : Nat) (a_9 : Nat) (a_10 : Nat) (a_11 : Nat) (a_12 : Nat) (a_13 : Nat) (a_14 : Nat) (a_15 : Nat) (a_16 : Nat) (a_17 : Nat) (a_18 : Nat) (i_10 : Int32) (i_11 : Int32) (i_12 : Int32) (i_13 : Int32) (i_14 : Int32) (i_15 : Int32) (a_19 : Nat) (i_16 : Int32) (a_20 : Nat) (f_0 : Nat → Int32) (h0 : mm_rg i_1 0 600) (h1 : mm_rg i_2 0 600) (h2 : mm_rg i_3 0 4) (h3 : mm_rg i_4 0 600) (h4 : mm_rg i_6 0 3) (h5 : mm_ar f_0 (-128) 127) (h6 : (i_4 : Int32).toInt ≤ (i_2 : Int32).toInt) (h7 : (i_2 : Int32).toInt ≤ (i_1 : Int32).toInt) (h8 : mm_tk i_3 i_4 i_2)  : mm_CI l yX12_number (mm_ws yX12_number cX12_number 4 (some .int)) ({ frames := 2, cells := 0, slots := 0, locals := 44 } : Room) G cy sz [(a_0, .inr (12, [.int i_0, .ref a_1, .ref a_2, .ref a_3, .ref a_4, .ref a_5, .int i_1, .int i_2, .int i_3, .int i_4, .int i_5, .long j_0, .int i_6, .int i_7, .int i_8, .int i_9, .ref a_6, .ref a_7, .ref a_8, .ref a_9, .ref a_10, .ref a_11, .ref a_12, .ref a_13, .ref a_14, .ref a_15, .ref a_16, .ref a_17, .ref a_18, .int i_10, .int i_11, .int i_12, .int i_13, .int i_14, .int i_15, .ref a_19, .int i_16, .ref a_20])), (a_5, .inl (cy 0, 600, .inl f_0))] [.ref a_0, .int 0, .int 10] (fun u : Int32 × Int32 × Int32 × Int32 × Int64 × Int32 × Int32 => [(a_0, .inr (12, [.int i_0, .ref a_1, .ref a_2, .ref a_3, .ref a_4, .ref a_5, .int i_1, .int u.1, .int u.2.1, .int u.2.2.1, .int u.2.2.2.1, .long u.2.2.2.2.1, .int u.2.2.2.2.2.1, .int u.2.2.2.2.2.2, .int i_8, .int i_9, .ref a_6, .ref a_7, .ref a_8, .ref a_9, .ref a_10, .ref a_11, .ref a_12, .ref a_13, .ref a_14, .ref a_15, .ref a_16, .ref a_17, .ref a_18, .int i_10, .int i_11, .int i_12, .int i_13, .int i_14, .int i_15, .ref a_19, .int i_16, .ref a_20])), (a_5, .inl (cy 0, 600, .inl f_0))]) (fun (r : Int32) (u : Int32 × Int32 × Int32 × Int32 × Int64 × Int32 × Int32) => mm_rg u.1 0 600 ∧ mm_rg u.2.1 0 4 ∧ mm_rg u.2.2.1 0 600 ∧ mm_rg u.2.2.2.2.2.1 0 3 ∧ (u.2.2.1 : Int32).toInt ≤ (u.1 : Int32).toInt ∧ (u.1 : Int32).toInt ≤ (i_1 : Int32).toInt ∧ mm_tk u.2.1 u.2.2.1 u.1 ∧ (i_4 : Int32).toInt ≤ (u.2.2.1 : Int32).toInt ∧ mm_b0 i_6 u.2.2.2.2.2.1 ∧ mm_rg r 0 10 ∧ (r : Int32).toInt ≤ (10 : Int32).toInt ∧ mm_nv u.2.2.2.2.2.1 r i_3 i_5) 0 0 := by
  refine mm_begin (lv := [(0, .ref a_0), (1, .int 0), (2, .int 10)]) (by decide) (Nat.le_of_ble_eq_true rfl) rfl ?_
  intro p e s m below meth c A ls R args Q H locs hRe hQ hAe hx hb hr hlocks hml hown hnm hts hsz hA hS hP hK hD hZ hl
  have hRf : R.frames = 2 := by rw [hRe]
  have hRl : R.locals = 44 := by rw [hRe]
  have hRc : R.cells = 0 := by rw [hRe]
  have hRs : R.slots = 0 := by rw [hRe]
  refine lv_aload_n hx hb dX12_number_0 rfl (lv_at hl 0 rfl) ?_
  refine va_get (D := G) (ci := 12) (v := .int i_6) (C := RX12) (T := TX12) (N := 38) hx hb hts (mm_i inlX12) hown hK.1 hP 0 rfl rfl 12 (by decide) (mm_h hts mm_w436) (fun _ h9 => h9) rfl dX12_number_1 ?_
  refine lv_if_eq (tgt := 9) hx hb dX12_number_4 (by decide) (fun c1 => ?_) (fun c1 => ?_)
  · have q2 := mm_eqI (lo := 0) (hi := 0) c1 h4 mm_k0 (by decide)
    refine lv_aload_n hx hb dX12_number_9 rfl (lv_at hl 0 rfl) ?_
    refine va_get (D := G) (ci := 12) (v := .int i_3) (C := RX12) (T := TX12) (N := 38) hx hb hts (mm_i inlX12) hown hK.1 hP 0 rfl rfl 8 (by decide) (mm_h hts mm_w432) (fun _ h9 => h9) rfl dX12_number_10 ?_
    refine lv_iconst (v := 2) hx hb dX12_number_13 (by decide) ?_
    refine lv_icmp_eq (tgt := 24) hx hb dX12_number_14 (by decide) (fun c3 => ?_) (fun c3 => ?_)
    · have q4 := mm_eqI (lo := 2) (hi := 2) c3 h2 mm_k2 (by decide)
      refine lv_aload_n hx hb dX12_number_24 rfl (lv_at hl 0 rfl) ?_
      refine va_get (D := G) (ci := 12) (v := .int i_5) (C := RX12) (T := TX12) (N := 38) hx hb hts (mm_i inlX12) hown hK.1 hP 0 rfl rfl 10 (by decide) (mm_h hts mm_w456) (fun _ h9 => h9) rfl dX12_number_25 ?_
      obtain ⟨v5, ev5⟩ : ∃ y : Int64, y = i_5.toInt64 := ⟨_, rfl⟩
      refine lv_i2l hx hb dX12_number_28 ev5.symm ?_
      have rv5 : mm_rl v5 (-2147483648) 2147483647 := mm_i2l ev5 (mm_top i_5)
      refine lv_iload_n hx hb dX12_number_29 rfl (lv_at hl 1 rfl) ?_
      refine lv_i2l (v := 0) hx hb dX12_number_30 (by decide) ?_
      refine lv_iload_n hx hb dX12_number_31 rfl (lv_at hl 2 rfl) ?_
      refine lv_i2l (v := 10) hx hb dX12_number_32 (by decide) ?_
      refine mm_finir (va_runS (As := [.long v5, .long 0, .long 10]) (rest := []) ⟨hx, hb, hml, hown, hts⟩ (M7_X12_in l G cy H.size v5 10 ) (va_cwS 3 hts (mm_gS mm_w191 mm_w192 mm_w5 mm_w193) rfl rfl rfl hs_X12_in ⟨by rw [hRf]; exact Nat.le_of_ble_eq_true rfl, by rw [hRl]; exact Nat.le_of_ble_eq_true rfl⟩) (mm_preS hK hZ hS hA hP hD [] rfl rfl) rfl rfl hl.1 rfl (lv_room (Nat.le_of_ble_eq_true rfl)) dX12_number_33 ⟨by rw [hRc]; exact Nat.le_of_ble_eq_true rfl, by rw [hRs]; exact Nat.le_of_ble_eq_true rfl⟩) hP hD hS hA [] rfl (fun _ => rfl) ?_
      clear hP hD hS
      clear H locs
      intro v6 _u H locs hw hP hD hS
      rcases hw with ⟨rfl, w7⟩ | ⟨rfl, w8, w9, w10, w11⟩
      · refine lv_if_ne (tgt := 46) hx hb dX12_number_36 (by decide) (fun c12 => ?_) (fun c12 => ?_)
        · exact absurd rfl (mm_ne c12)
        · refine lv_aload_n hx hb dX12_number_39 rfl (lv_at hl 0 rfl) ?_
          refine lv_iconst (v := 2) hx hb dX12_number_40 (by decide) ?_
          refine mm_finv (va_runV (As := [.int 2]) (rest := []) ⟨hx, hb, hml, hown, hts⟩ (M29_X12_fails l G cy H.size a_0 i_0 a_1 a_2 a_3 a_4 a_5 i_1 i_2 i_3 i_4 i_5 j_0 i_6 i_7 i_8 i_9 a_6 a_7 a_8 a_9 a_10 a_11 a_12 a_13 a_14 a_15 a_16 a_17 a_18 i_10 i_11 i_12 i_13 i_14 i_15 a_19 i_16 a_20 h3 (mm_wk q2 (by decide))) (cwV 1 hts (mm_gV mm_w483 mm_w484 mm_w485 mm_w5 mm_w486) rfl rfl rfl hd_X12_fails ⟨by rw [hRf]; exact Nat.le_of_ble_eq_true rfl, by rw [hRl]; exact Nat.le_of_ble_eq_true rfl⟩) (mm_preV hK hZ hS hA hP hD [0] rfl rfl 0 rfl rfl rfl) rfl rfl hl.1 rfl (lv_room (Nat.le_of_ble_eq_true rfl)) dX12_number_41 ⟨by rw [hRc]; exact Nat.le_of_ble_eq_true rfl, by rw [hRs]; exact Nat.le_of_ble_eq_true rfl⟩) hP hD hS hA (fun u : Int32 × Int32 => [(a_0, .inr (12, [.int i_0, .ref a_1, .ref a_2, .ref a_3, .ref a_4, .ref a_5, .int i_1, .int i_2, .int i_3, .int i_4, .int i_5, .long j_0, .int u.1, .int u.2, .int i_8, .int i_9, .ref a_6, .ref a_7, .ref a_8, .ref a_9, .ref a_10, .ref a_11, .ref a_12, .ref a_13, .ref a_14, .ref a_15, .ref a_16, .ref a_17, .ref a_18, .int i_10, .int i_11, .int i_12, .int i_13, .int i_14, .int i_15, .ref a_19, .int i_16, .ref a_20])), (a_5, .inl (cy 0, 600, .inl f_0))]) [0] [1] (n := 2) (fun _ => rfl) (by decide +kernel) (by decide +kernel) rfl (fun _ => rfl) (wr := [(a_5, .inl (cy 0, 600, .inl f_0))]) rfl (fun _ => rfl) (fun _ => rfl) ?_
          clear hP hD hS
          clear H locs
          intro u
          obtain ⟨n13, n14⟩ := u
          intro H locs hw (hP : va_P G vwCl [(a_0, .inr (12, [.int i_0, .ref a_1, .ref a_2, .ref a_3, .ref a_4, .ref a_5, .int i_1, .int i_2, .int i_3, .int i_4, .int i_5, .long j_0, .int n13, .int n14, .int i_8, .int i_9, .ref a_6, .ref a_7, .ref a_8, .ref a_9, .ref a_10, .ref a_11, .ref a_12, .ref a_13, .ref a_14, .ref a_15, .ref a_16, .ref a_17, .ref a_18, .int i_10, .int i_11, .int i_12, .int i_13, .int i_14, .int i_15, .ref a_19, .int i_16, .ref a_20])), (a_5, .inl (cy 0, 600, .inl f_0))] H) (hD : va_D A [(a_0, .inr (12, [.int i_0, .ref a_1, .ref a_2, .ref a_3, .ref a_4, .ref a_5, .int i_1, .int i_2, .int i_3, .int i_4, .int i_5, .long j_0, .int n13, .int n14, .int i_8, .int i_9, .ref a_6, .ref a_7, .ref a_8, .ref a_9, .ref a_10, .ref a_11, .ref a_12, .ref a_13, .ref a_14, .ref a_15, .ref a_16, .ref a_17, .ref a_18, .int i_10, .int i_11, .int i_12, .int i_13, .int i_14, .int i_15, .ref a_19, .int i_16, .ref a_20])), (a_5, .inl (cy 0, 600, .inl f_0))]) hS
          have w15 := hw
          refine lv_iload_n hx hb dX12_number_44 rfl (lv_at hl 1 rfl) ?_
          have w16 : (i_4 : Int32).toInt ≤ (i_4 : Int32).toInt := (Int.le_refl _)
          have w17 : mm_b0 i_6 n13 := (mm_b0_n w15 (by decide))
          have w18 : (0 : Int32).toInt ≤ (10 : Int32).toInt := (mm_leC mm_k0 mm_k10 (by decide))
          have w19 : mm_nv n13 0 i_3 i_5 := (mm_nv_n w15 (by decide))
          subst hAe
          rw [hQ]
          exact W.iret (v := 0) hx hb hr (fun t ht hW => ⟨⟨0, (i_2, i_3, i_4, i_5, j_0, n13, n14), rfl, ⟨h1, (mm_wk q4 (by decide)), h3, (mm_wk w15 (by decide)), h6, h7, h8, w16, w17, ⟨(mm_wk mm_k0 (by decide)), w18, w19⟩⟩, by rw [ht]; exact hP, hK.warm hW, hD⟩, hS.F ht⟩) hS.2.2 dX12_number_45
      · have q20 := mm_meetl (lo := 0) (hi := 2147483647) w8 rv5 (by decide)
        have q21 := mm_meet (lo := 0) (hi := 2147483647) (mm_l2x ev5 q20) (mm_top i_5) (by decide)
        have q22 := mm_leLl w10 q20 mm_kl10
        have q23 := mm_meet (lo := 0) (hi := 10) (mm_l2x ev5 q22) q21 (by decide)
        refine lv_if_ne (tgt := 46) hx hb dX12_number_36 (by decide) (fun c24 => ?_) (fun c24 => ?_)
        · refine lv_aload_n hx hb dX12_number_46 rfl (lv_at hl 0 rfl) ?_
          refine va_get (D := G) (ci := 12) (v := .int i_5) (C := RX12) (T := TX12) (N := 38) hx hb hts (mm_i inlX12) hown hK.1 hP 0 rfl rfl 10 (by decide) (mm_h hts mm_w456) (fun _ h9 => h9) rfl dX12_number_47 ?_
          refine lv_istore_n (lv' := [(3, .int i_5), (0, .ref a_0), (1, .int 0), (2, .int 10)]) hx hb dX12_number_50 rfl hl (by decide) rfl ?_
          clear hl
          clear ls
          intro ls hl
          refine lv_aload_n hx hb dX12_number_51 rfl (lv_at hl 1 rfl) ?_
          refine mm_finv (va_runV (As := []) (rest := []) ⟨hx, hb, hml, hown, hts⟩ (M22_X12_next l G cy H.size a_0 i_0 a_1 a_2 a_3 a_4 a_5 i_1 i_2 i_3 i_4 i_5 j_0 i_6 i_7 i_8 i_9 a_6 a_7 a_8 a_9 a_10 a_11 a_12 a_13 a_14 a_15 a_16 a_17 a_18 i_10 i_11 i_12 i_13 i_14 i_15 a_19 i_16 a_20 f_0 h0 h1 (mm_wk q4 (by decide)) h3 h5 h7) (cwV 0 hts (mm_gV mm_w451 mm_w452 mm_w453 mm_w5 mm_w454) rfl rfl rfl hd_X12_next ⟨by rw [hRf]; exact Nat.le_of_ble_eq_true rfl, by rw [hRl]; exact Nat.le_of_ble_eq_true rfl⟩) (mm_preV hK hZ hS hA hP hD [0, 1] rfl rfl 0 rfl rfl rfl) rfl rfl hl.1 rfl (lv_room (Nat.le_of_ble_eq_true rfl)) dX12_number_52 ⟨by rw [hRc]; exact Nat.le_of_ble_eq_true rfl, by rw [hRs]; exact Nat.le_of_ble_eq_true rfl⟩) hP hD hS hA (fun u : Int32 × Int32 × Int32 × Int32 × Int64 => [(a_0, .inr (12, [.int i_0, .ref a_1, .ref a_2, .ref a_3, .ref a_4, .ref a_5, .int i_1, .int u.1, .int u.2.1, .int u.2.2.1, .int u.2.2.2.1, .long u.2.2.2.2, .int i_6, .int i_7, .int i_8, .int i_9, .ref a_6, .ref a_7, .ref a_8, .ref a_9, .ref a_10, .ref a_11, .ref a_12, .ref a_13, .ref a_14, .ref a_15, .ref a_16, .ref a_17, .ref a_18, .int i_10, .int i_11, .int i_12, .int i_13, .int i_14, .int i_15, .ref a_19, .int i_16, .ref a_20])), (a_5, .inl (cy 0, 600, .inl f_0))]) [0, 1] [] (n := 2) (fun _ => rfl) (by decide +kernel) (by decide +kernel) rfl (fun _ => rfl) (wr := []) rfl (fun _ => rfl) (fun _ => rfl) ?_
          clear hP hD hS
          clear H locs
          intro u
          obtain ⟨n25, n26, n27, n28, n29⟩ := u
          intro H locs hw (hP : va_P G vwCl [(a_0, .inr (12, [.int i_0, .ref a_1, .ref a_2, .ref a_3, .ref a_4, .ref a_5, .int i_1, .int n25, .int n26, .int n27, .int n28, .long n29, .int i_6, .int i_7, .int i_8, .int i_9, .ref a_6, .ref a_7, .ref a_8, .ref a_9, .ref a_10, .ref a_11, .ref a_12, .ref a_13, .ref a_14, .ref a_15, .ref a_16, .ref a_17, .ref a_18, .int i_10, .int i_11, .int i_12, .int i_13, .int i_14, .int i_15, .ref a_19, .int i_16, .ref a_20])), (a_5, .inl (cy 0, 600, .inl f_0))] H) (hD : va_D A [(a_0, .inr (12, [.int i_0, .ref a_1, .ref a_2, .ref a_3, .ref a_4, .ref a_5, .int i_1, .int n25, .int n26, .int n27, .int n28, .long n29, .int i_6, .int i_7, .int i_8, .int i_9, .ref a_6, .ref a_7, .ref a_8, .ref a_9, .ref a_10, .ref a_11, .ref a_12, .ref a_13, .ref a_14, .ref a_15, .ref a_16, .ref a_17, .ref a_18, .int i_10, .int i_11, .int i_12, .int i_13, .int i_14, .int i_15, .ref a_19, .int i_16, .ref a_20])), (a_5, .inl (cy 0, 600, .inl f_0))]) hS
          obtain ⟨w30, w31, w32, w33, w34, w35, w36⟩ := hw
          replace w33 : (n27 : Int32).toInt ≤ (n25 : Int32).toInt := w33
          replace w34 : (n25 : Int32).toInt ≤ (i_1 : Int32).toInt := w34
          replace w35 : mm_tk n26 n27 n25 := w35
          replace w36 : (i_2 : Int32).toInt ≤ (n27 : Int32).toInt := w36
          refine lv_iload_n hx hb dX12_number_55 rfl (lv_at hl 0 rfl) ?_
          have w37 : (i_4 : Int32).toInt ≤ (n27 : Int32).toInt := (by have := h6; have := w36; omega)
          have w38 : mm_b0 i_6 i_6 := (fun h => h)
          have w39 : (i_5 : Int32).toInt ≤ (10 : Int32).toInt := (mm_leC q23 mm_k10 (by decide))
          have w40 : mm_nv i_6 i_5 i_3 i_5 := (mm_nv_y q4 (by decide))
          subst hAe
          rw [hQ]
          exact W.iret (v := i_5) hx hb hr (fun t ht hW => ⟨⟨i_5, (n25, n26, n27, n28, n29, i_6, i_7), rfl, ⟨w30, w31, w32, (mm_wk q2 (by decide)), w33, w34, w35, w37, w38, ⟨q23, w39, w40⟩⟩, by rw [ht]; exact hP, hK.warm hW, hD⟩, hS.F ht⟩) hS.2.2 dX12_number_56
        · exact mm_eqN c24.symm mm_k0 mm_k1 (by decide)
    · refine lv_aload_n hx hb dX12_number_17 rfl (lv_at hl 0 rfl) ?_
      refine lv_iconst (v := 1) hx hb dX12_number_18 (by decide) ?_
      refine mm_finv (va_runV (As := [.int 1]) (rest := []) ⟨hx, hb, hml, hown, hts⟩ (M27_X12_fails l G cy H.size a_0 i_0 a_1 a_2 a_3 a_4 a_5 i_1 i_2 i_3 i_4 i_5 j_0 i_6 i_7 i_8 i_9 a_6 a_7 a_8 a_9 a_10 a_11 a_12 a_13 a_14 a_15 a_16 a_17 a_18 i_10 i_11 i_12 i_13 i_14 i_15 a_19 i_16 a_20 h3 (mm_wk q2 (by decide))) (cwV 1 hts (mm_gV mm_w483 mm_w484 mm_w485 mm_w5 mm_w486) rfl rfl rfl hd_X12_fails ⟨by rw [hRf]; exact Nat.le_of_ble_eq_true rfl, by rw [hRl]; exact Nat.le_of_ble_eq_true rfl⟩) (mm_preV hK hZ hS hA hP hD [0] rfl rfl 0 rfl rfl rfl) rfl rfl hl.1 rfl (lv_room (Nat.le_of_ble_eq_true rfl)) dX12_number_19 ⟨by rw [hRc]; exact Nat.le_of_ble_eq_true rfl, by rw [hRs]; exact Nat.le_of_ble_eq_true rfl⟩) hP hD hS hA (fun u : Int32 × Int32 => [(a_0, .inr (12, [.int i_0, .ref a_1, .ref a_2, .ref a_3, .ref a_4, .ref a_5, .int i_1, .int i_2, .int i_3, .int i_4, .int i_5, .long j_0, .int u.1, .int u.2, .int i_8, .int i_9, .ref a_6, .ref a_7, .ref a_8, .ref a_9, .ref a_10, .ref a_11, .ref a_12, .ref a_13, .ref a_14, .ref a_15, .ref a_16, .ref a_17, .ref a_18, .int i_10, .int i_11, .int i_12, .int i_13, .int i_14, .int i_15, .ref a_19, .int i_16, .ref a_20])), (a_5, .inl (cy 0, 600, .inl f_0))]) [0] [1] (n := 2) (fun _ => rfl) (by decide +kernel) (by decide +kernel) rfl (fun _ => rfl) (wr := [(a_5, .inl (cy 0, 600, .inl f_0))]) rfl (fun _ => rfl) (fun _ => rfl) ?_
      clear hP hD hS
      clear H locs
      intro u
      obtain ⟨n41, n42⟩ := u
      intro H locs hw (hP : va_P G vwCl [(a_0, .inr (12, [.int i_0, .ref a_1, .ref a_2, .ref a_3, .ref a_4, .ref a_5, .int i_1, .int i_2, .int i_3, .int i_4, .int i_5, .long j_0, .int n41, .int n42, .int i_8, .int i_9, .ref a_6, .ref a_7, .ref a_8, .ref a_9, .ref a_10, .ref a_11, .ref a_12, .ref a_13, .ref a_14, .ref a_15, .ref a_16, .ref a_17, .ref a_18, .int i_10, .int i_11, .int i_12, .int i_13, .int i_14, .int i_15, .ref a_19, .int i_16, .ref a_20])), (a_5, .inl (cy 0, 600, .inl f_0))] H) (hD : va_D A [(a_0, .inr (12, [.int i_0, .ref a_1, .ref a_2, .ref a_3, .ref a_4, .ref a_5, .int i_1, .int i_2, .int i_3, .int i_4, .int i_5, .long j_0, .int n41, .int n42, .int i_8, .int i_9, .ref a_6, .ref a_7, .ref a_8, .ref a_9, .ref a_10, .ref a_11, .ref a_12, .ref a_13, .ref a_14, .ref a_15, .ref a_16, .ref a_17, .ref a_18, .int i_10, .int i_11, .int i_12, .int i_13, .int i_14, .int i_15, .ref a_19, .int i_16, .ref a_20])), (a_5, .inl (cy 0, 600, .inl f_0))]) hS
      have w43 := hw
      refine lv_iload_n hx hb dX12_number_22 rfl (lv_at hl 1 rfl) ?_
      have w44 : (i_4 : Int32).toInt ≤ (i_4 : Int32).toInt := (Int.le_refl _)
      have w45 : mm_b0 i_6 n41 := (mm_b0_n w43 (by decide))
      have w46 : (0 : Int32).toInt ≤ (10 : Int32).toInt := (mm_leC mm_k0 mm_k10 (by decide))
      have w47 : mm_nv n41 0 i_3 i_5 := (mm_nv_n w43 (by decide))
      subst hAe
      rw [hQ]
      exact W.iret (v := 0) hx hb hr (fun t ht hW => ⟨⟨0, (i_2, i_3, i_4, i_5, j_0, n41, n42), rfl, ⟨h1, h2, h3, (mm_wk w43 (by decide)), h6, h7, h8, w44, w45, ⟨(mm_wk mm_k0 (by decide)), w46, w47⟩⟩, by rw [ht]; exact hP, hK.warm hW, hD⟩, hS.F ht⟩) hS.2.2 dX12_number_23
  · have q48 := mm_neL (lo := 1) (mm_ne c1) h4 mm_k0 (by decide) (by decide)
    refine lv_iload_n hx hb dX12_number_7 rfl (lv_at hl 1 rfl) ?_
    have w49 : (i_4 : Int32).toInt ≤ (i_4 : Int32).toInt := (Int.le_refl _)
    have w50 : mm_b0 i_6 i_6 := (fun h => h)
    have w51 : (0 : Int32).toInt ≤ (10 : Int32).toInt := (mm_leC mm_k0 mm_k10 (by decide))
    have w52 : mm_nv i_6 0 i_3 i_5 := (mm_nv_n q48 (by decide))
    subst hAe
    rw [hQ]
    exact W.iret (v := 0) hx hb hr (fun t ht hW => ⟨⟨0, (i_2, i_3, i_4, i_5, j_0, i_6, i_7), rfl, ⟨h1, h2, h3, (mm_wk q48 (by decide)), h6, h7, h8, w49, w50, ⟨(mm_wk mm_k0 (by decide)), w51, w52⟩⟩, by rw [ht]; exact hP, hK.warm hW, hD⟩, hS.F ht⟩) hS.2.2 dX12_number_8

set_option maxHeartbeats 4000000 in
set_option maxRecDepth 100000 in
theorem M31_X12_number_ (l : Launch) (G : va_G) (cy : Nat → ClassId) (sz : Nat) (a_0 : Nat) (j_0 : Int64) (i_0 : Int32) (a_1 : Nat) (a_2 : Nat) (a_3 : Nat) (a_4 : Nat) (a_5 : Nat) (i_1 : Int32) (i_2 : Int32) (i_3 : Int32) (i_4 : Int32) (i_5 : Int32) (j_1 : Int64) (i_6 : Int32) (i_7 : Int32) (i_8 : Int32) (i_9 : Int32) (a_6 : Nat) (a_7 : Nat) (a_8 : Nat) (a_9 : Nat) (a_10 : Nat) (a_11 : Nat) (a_12 : Nat) (a_13 : Nat) (a_14 : Nat) (a_15 : Nat) (a_16 : Nat) (a_17 : Nat) (a_18 : Nat) (i_10 : Int32) (i_11 : Int32) (i_12 : Int32) (i_13 : Int32) (i_14 : Int32) (i_15 : Int32) (a_19 : Nat) (i_16 : Int32) (a_20 : Nat) (f_0 : Nat → Int32) (h0 : mm_rg i_1 0 600) (h1 : mm_rg i_2 0 600) (h2 : mm_rg i_3 0 4) (h3 : mm_rg i_4 0 600) (h4 : mm_rg i_6 0 3) (h5 : mm_ar f_0 (-128) 127) (h6 : (i_4 : Int32).toInt ≤ (i_2 : Int32).toInt) (h7 : (i_2 : Int32).toInt ≤ (i_1 : Int32).toInt) (h8 : mm_tk i_3 i_4 i_2)  : mm_CI l yX12_number_ (mm_ws yX12_number_ cX12_number_ 5 (some .int)) ({ frames := 4, cells := 0, slots := 0, locals := 88 } : Room) G cy sz [(a_0, .inr (12, [.int i_0, .ref a_1, .ref a_2, .ref a_3, .ref a_4, .ref a_5, .int i_1, .int i_2, .int i_3, .int i_4, .int i_5, .long j_1, .int i_6, .int i_7, .int i_8, .int i_9, .ref a_6, .ref a_7, .ref a_8, .ref a_9, .ref a_10, .ref a_11, .ref a_12, .ref a_13, .ref a_14, .ref a_15, .ref a_16, .ref a_17, .ref a_18, .int i_10, .int i_11, .int i_12, .int i_13, .int i_14, .int i_15, .ref a_19, .int i_16, .ref a_20])), (a_5, .inl (cy 0, 600, .inl f_0))] [.ref a_0, .long j_0, .int 0, .int 10] (fun u : Int32 × Int32 × Int32 × Int32 × Int64 × Int32 × Int32 => [(a_0, .inr (12, [.int i_0, .ref a_1, .ref a_2, .ref a_3, .ref a_4, .ref a_5, .int i_1, .int u.1, .int u.2.1, .int u.2.2.1, .int u.2.2.2.1, .long u.2.2.2.2.1, .int u.2.2.2.2.2.1, .int u.2.2.2.2.2.2, .int i_8, .int i_9, .ref a_6, .ref a_7, .ref a_8, .ref a_9, .ref a_10, .ref a_11, .ref a_12, .ref a_13, .ref a_14, .ref a_15, .ref a_16, .ref a_17, .ref a_18, .int i_10, .int i_11, .int i_12, .int i_13, .int i_14, .int i_15, .ref a_19, .int i_16, .ref a_20])), (a_5, .inl (cy 0, 600, .inl f_0))]) (fun (r : Int32) (u : Int32 × Int32 × Int32 × Int32 × Int64 × Int32 × Int32) => mm_rg u.1 0 600 ∧ mm_rg u.2.1 0 4 ∧ mm_rg u.2.2.1 0 600 ∧ mm_rg u.2.2.2.2.2.1 0 3 ∧ (u.2.2.1 : Int32).toInt ≤ (u.1 : Int32).toInt ∧ (u.1 : Int32).toInt ≤ (i_1 : Int32).toInt ∧ mm_tk u.2.1 u.2.2.1 u.1 ∧ (i_4 : Int32).toInt ≤ (u.2.2.1 : Int32).toInt ∧ mm_rg r 0 10) 0 0 := by
  refine mm_begin (lv := [(0, .ref a_0), (1, .long j_0), (3, .int 0), (4, .int 10)]) (by decide) (Nat.le_of_ble_eq_true rfl) rfl ?_
  intro p e s m below meth c A ls R args Q H locs hRe hQ hAe hx hb hr hlocks hml hown hnm hts hsz hA hS hP hK hD hZ hl
  have hRf : R.frames = 4 := by rw [hRe]
  have hRl : R.locals = 88 := by rw [hRe]
  have hRc : R.cells = 0 := by rw [hRe]
  have hRs : R.slots = 0 := by rw [hRe]
  refine lv_aload_n hx hb dX12_number__0 rfl (lv_at hl 0 rfl) ?_
  refine lv_lload_n hx hb dX12_number__1 rfl (lv_at hl 1 rfl) ?_
  refine mm_finv (va_runV (As := [.long j_0]) (rest := []) ⟨hx, hb, hml, hown, hts⟩ (M28_X12_asks l G cy H.size a_0 j_0 i_0 a_1 a_2 a_3 a_4 a_5 i_1 i_2 i_3 i_4 i_5 j_1 i_6 i_7 i_8 i_9 a_6 a_7 a_8 a_9 a_10 a_11 a_12 a_13 a_14 a_15 a_16 a_17 a_18 i_10 i_11 i_12 i_13 i_14 i_15 a_19 i_16 a_20 f_0 h0 h1 h2 h3 h4 h5 h6 h7 h8) (cwV 1 hts (mm_gV mm_w471 mm_w472 mm_w473 mm_w5 mm_w474) rfl rfl rfl hd_X12_asks ⟨by rw [hRf]; exact Nat.le_of_ble_eq_true rfl, by rw [hRl]; exact Nat.le_of_ble_eq_true rfl⟩) (mm_preV hK hZ hS hA hP hD [0, 1] rfl rfl 0 rfl rfl rfl) rfl rfl hl.1 rfl (lv_room (Nat.le_of_ble_eq_true rfl)) dX12_number__2 ⟨by rw [hRc]; exact Nat.le_of_ble_eq_true rfl, by rw [hRs]; exact Nat.le_of_ble_eq_true rfl⟩) hP hD hS hA (fun u : Int32 × Int32 × Int32 × Int32 × Int64 × Int32 × Int32 => [(a_0, .inr (12, [.int i_0, .ref a_1, .ref a_2, .ref a_3, .ref a_4, .ref a_5, .int i_1, .int u.1, .int u.2.1, .int u.2.2.1, .int u.2.2.2.1, .long u.2.2.2.2.1, .int u.2.2.2.2.2.1, .int u.2.2.2.2.2.2, .int i_8, .int i_9, .ref a_6, .ref a_7, .ref a_8, .ref a_9, .ref a_10, .ref a_11, .ref a_12, .ref a_13, .ref a_14, .ref a_15, .ref a_16, .ref a_17, .ref a_18, .int i_10, .int i_11, .int i_12, .int i_13, .int i_14, .int i_15, .ref a_19, .int i_16, .ref a_20])), (a_5, .inl (cy 0, 600, .inl f_0))]) [0, 1] [] (n := 2) (fun _ => rfl) (by decide +kernel) (by decide +kernel) rfl (fun _ => rfl) (wr := []) rfl (fun _ => rfl) (fun _ => rfl) ?_
  clear hP hD hS
  clear H locs
  intro u
  obtain ⟨n1, n2, n3, n4, n5, n6, n7⟩ := u
  intro H locs hw (hP : va_P G vwCl [(a_0, .inr (12, [.int i_0, .ref a_1, .ref a_2, .ref a_3, .ref a_4, .ref a_5, .int i_1, .int n1, .int n2, .int n3, .int n4, .long n5, .int n6, .int n7, .int i_8, .int i_9, .ref a_6, .ref a_7, .ref a_8, .ref a_9, .ref a_10, .ref a_11, .ref a_12, .ref a_13, .ref a_14, .ref a_15, .ref a_16, .ref a_17, .ref a_18, .int i_10, .int i_11, .int i_12, .int i_13, .int i_14, .int i_15, .ref a_19, .int i_16, .ref a_20])), (a_5, .inl (cy 0, 600, .inl f_0))] H) (hD : va_D A [(a_0, .inr (12, [.int i_0, .ref a_1, .ref a_2, .ref a_3, .ref a_4, .ref a_5, .int i_1, .int n1, .int n2, .int n3, .int n4, .long n5, .int n6, .int n7, .int i_8, .int i_9, .ref a_6, .ref a_7, .ref a_8, .ref a_9, .ref a_10, .ref a_11, .ref a_12, .ref a_13, .ref a_14, .ref a_15, .ref a_16, .ref a_17, .ref a_18, .int i_10, .int i_11, .int i_12, .int i_13, .int i_14, .int i_15, .ref a_19, .int i_16, .ref a_20])), (a_5, .inl (cy 0, 600, .inl f_0))]) hS
  obtain ⟨w8, w9, w10, w11, w12, w13, w14, w15⟩ := hw
  replace w12 : (n3 : Int32).toInt ≤ (n1 : Int32).toInt := w12
  replace w13 : (n1 : Int32).toInt ≤ (i_1 : Int32).toInt := w13
  replace w14 : mm_tk n2 n3 n1 := w14
  replace w15 : (i_4 : Int32).toInt ≤ (n3 : Int32).toInt := w15
  refine lv_aload_n hx hb dX12_number__5 rfl (lv_at hl 0 rfl) ?_
  refine lv_iload_n hx hb dX12_number__6 rfl (lv_at hl 2 rfl) ?_
  refine lv_iload hx hb dX12_number__7 (lv_at hl 3 rfl) ?_
  refine mm_fini (va_runV (As := [.int 0, .int 10]) (rest := []) ⟨hx, hb, hml, hown, hts⟩ (M30_X12_number l G cy H.size a_0 i_0 a_1 a_2 a_3 a_4 a_5 i_1 n1 n2 n3 n4 n5 n6 n7 i_8 i_9 a_6 a_7 a_8 a_9 a_10 a_11 a_12 a_13 a_14 a_15 a_16 a_17 a_18 i_10 i_11 i_12 i_13 i_14 i_15 a_19 i_16 a_20 f_0 h0 w8 w9 w10 w11 h5 w12 w13 w14) (cwV 2 hts (mm_gV mm_w491 mm_w492 mm_w493 mm_w5 mm_w494) rfl rfl rfl hd_X12_number ⟨by rw [hRf]; exact Nat.le_of_ble_eq_true rfl, by rw [hRl]; exact Nat.le_of_ble_eq_true rfl⟩) (mm_preV hK hZ hS hA hP hD [0, 1] rfl rfl 0 rfl rfl rfl) rfl rfl hl.1 rfl (lv_room (Nat.le_of_ble_eq_true rfl)) dX12_number__9 ⟨by rw [hRc]; exact Nat.le_of_ble_eq_true rfl, by rw [hRs]; exact Nat.le_of_ble_eq_true rfl⟩) hP hD hS hA (fun u : Int32 × Int32 × Int32 × Int32 × Int64 × Int32 × Int32 => [(a_0, .inr (12, [.int i_0, .ref a_1, .ref a_2, .ref a_3, .ref a_4, .ref a_5, .int i_1, .int u.1, .int u.2.1, .int u.2.2.1, .int u.2.2.2.1, .long u.2.2.2.2.1, .int u.2.2.2.2.2.1, .int u.2.2.2.2.2.2, .int i_8, .int i_9, .ref a_6, .ref a_7, .ref a_8, .ref a_9, .ref a_10, .ref a_11, .ref a_12, .ref a_13, .ref a_14, .ref a_15, .ref a_16, .ref a_17, .ref a_18, .int i_10, .int i_11, .int i_12, .int i_13, .int i_14, .int i_15, .ref a_19, .int i_16, .ref a_20])), (a_5, .inl (cy 0, 600, .inl f_0))]) [0, 1] [] (n := 2) (fun _ => rfl) (by decide +kernel) (by decide +kernel) rfl (fun _ => rfl) (wr := []) rfl (fun _ => rfl) (fun _ => rfl) ?_
  clear hP hD hS
  clear H locs
  intro v23 u
  obtain ⟨n16, n17, n18, n19, n20, n21, n22⟩ := u
  intro H locs hw (hP : va_P G vwCl [(a_0, .inr (12, [.int i_0, .ref a_1, .ref a_2, .ref a_3, .ref a_4, .ref a_5, .int i_1, .int n16, .int n17, .int n18, .int n19, .long n20, .int n21, .int n22, .int i_8, .int i_9, .ref a_6, .ref a_7, .ref a_8, .ref a_9, .ref a_10, .ref a_11, .ref a_12, .ref a_13, .ref a_14, .ref a_15, .ref a_16, .ref a_17, .ref a_18, .int i_10, .int i_11, .int i_12, .int i_13, .int i_14, .int i_15, .ref a_19, .int i_16, .ref a_20])), (a_5, .inl (cy 0, 600, .inl f_0))] H) (hD : va_D A [(a_0, .inr (12, [.int i_0, .ref a_1, .ref a_2, .ref a_3, .ref a_4, .ref a_5, .int i_1, .int n16, .int n17, .int n18, .int n19, .long n20, .int n21, .int n22, .int i_8, .int i_9, .ref a_6, .ref a_7, .ref a_8, .ref a_9, .ref a_10, .ref a_11, .ref a_12, .ref a_13, .ref a_14, .ref a_15, .ref a_16, .ref a_17, .ref a_18, .int i_10, .int i_11, .int i_12, .int i_13, .int i_14, .int i_15, .ref a_19, .int i_16, .ref a_20])), (a_5, .inl (cy 0, 600, .inl f_0))]) hS
  obtain ⟨w24, w25, w26, w27, w28, w29, w30, w31, w32, hw⟩ := hw
  replace w28 : (n18 : Int32).toInt ≤ (n16 : Int32).toInt := w28
  replace w29 : (n16 : Int32).toInt ≤ (i_1 : Int32).toInt := w29
  replace w30 : mm_tk n17 n18 n16 := w30
  replace w31 : (n3 : Int32).toInt ≤ (n18 : Int32).toInt := w31
  replace w32 : mm_b0 n6 n21 := w32
  obtain ⟨w33, w34, w35⟩ := hw
  replace w34 : (v23 : Int32).toInt ≤ (10 : Int32).toInt := w34
  replace w35 : mm_nv n21 v23 n2 n4 := w35
  have w36 : (i_4 : Int32).toInt ≤ (n18 : Int32).toInt := (by have := w15; have := w31; omega)
  subst hAe
  rw [hQ]
  exact W.iret (v := v23) hx hb hr (fun t ht hW => ⟨⟨v23, (n16, n17, n18, n19, n20, n21, n22), rfl, ⟨w24, w25, w26, w27, w28, w29, w30, w36, w33⟩, by rw [ht]; exact hP, hK.warm hW, hD⟩, hS.F ht⟩) hS.2.2 dX12_number__12

set_option maxHeartbeats 4000000 in
set_option maxRecDepth 100000 in
theorem M32_X12_tells (l : Launch) (G : va_G) (cy : Nat → ClassId) (sz : Nat) (a_0 : Nat) (i_0 : Int32) (i_1 : Int32) (a_1 : Nat) (a_2 : Nat) (a_3 : Nat) (a_4 : Nat) (a_5 : Nat) (i_2 : Int32) (i_3 : Int32) (i_4 : Int32) (i_5 : Int32) (i_6 : Int32) (j_0 : Int64) (i_7 : Int32) (i_8 : Int32) (i_9 : Int32) (i_10 : Int32) (a_6 : Nat) (a_7 : Nat) (a_8 : Nat) (a_9 : Nat) (a_10 : Nat) (a_11 : Nat) (a_12 : Nat) (a_13 : Nat) (a_14 : Nat) (a_15 : Nat) (a_16 : Nat) (a_17 : Nat) (a_18 : Nat) (i_11 : Int32) (i_12 : Int32) (i_13 : Int32) (i_14 : Int32) (i_15 : Int32) (i_16 : Int32) (a_19 : Nat) (i_17 : Int32) (a_20 : Nat) (i_18 : Int32) (i_19 : Int32) (i_20 : Int32) (i_21 : Int32) (i_22 : Int32) (i_23 : Int32) (i_24 : Int32) (i_25 : Int32) (i_26 : Int32) (i_27 : Int32) (i_28 : Int32) (i_29 : Int32) (i_30 : Int32) (i_31 : Int32) (i_32 : Int32) (i_33 : Int32) (i_34 : Int32) (i_35 : Int32) (i_36 : Int32) (i_37 : Int32) (i_38 : Int32) (i_39 : Int32) (i_40 : Int32) (i_41 : Int32) (i_42 : Int32) (i_43 : Int32) (i_44 : Int32) (i_45 : Int32) (i_46 : Int32) (i_47 : Int32) (h0 : mm_rg i_0 0 10) (h1 : mm_rg i_18 0 10) (h2 : mm_rg i_19 0 99) (h3 : mm_rg i_20 0 9) (h4 : mm_rg i_21 0 3) (h5 : mm_rg i_22 0 6) (h6 : mm_rg i_23 0 30) (h7 : mm_rg i_24 0 10) (h8 : mm_rg i_25 0 99) (h9 : mm_rg i_26 0 9) (h10 : mm_rg i_27 0 3) (h11 : mm_rg i_28 0 6) (h12 : mm_rg i_29 0 30) (h13 : mm_rg i_30 0 10) (h14 : mm_rg i_31 0 99) (h15 : mm_rg i_32 0 9) (h16 : mm_rg i_33 0 3) (h17 : mm_rg i_34 0 6) (h18 : mm_rg i_35 0 30) (h19 : mm_rg i_36 0 10) (h20 : mm_rg i_37 0 99) (h21 : mm_rg i_38 0 9) (h22 : mm_rg i_39 0 3) (h23 : mm_rg i_40 0 6) (h24 : mm_rg i_41 0 30) (h25 : mm_rg i_42 0 10) (h26 : mm_rg i_43 0 99) (h27 : mm_rg i_44 0 9) (h28 : mm_rg i_45 0 3) (h29 : mm_rg i_46 0 6) (h30 : mm_rg i_47 0 30)  : mm_CV l yX12_tells (mm_ws yX12_tells cX12_tells 3 (none)) ({ frames := 0, cells := 0, slots := 0, locals := 0 } : Room) G cy sz [(a_0, .inr (12, [.int i_1, .ref a_1, .ref a_2, .ref a_3, .ref a_4, .ref a_5, .int i_2, .int i_3, .int i_4, .int i_5, .int i_6, .long j_0, .int i_7, .int i_8, .int i_9, .int i_10, .ref a_6, .ref a_7, .ref a_8, .ref a_9, .ref a_10, .ref a_11, .ref a_12, .ref a_13, .ref a_14, .ref a_15, .ref a_16, .ref a_17, .ref a_18, .int i_11, .int i_12, .int i_13, .int i_14, .int i_15, .int i_16, .ref a_19, .int i_17, .ref a_20])), (a_7, .inl (cy 1, 30, .inl (mm_g [i_18, i_19, i_20, i_21, i_22, i_23, i_24, i_25, i_26, i_27, i_28, i_29, i_30, i_31, i_32, i_33, i_34, i_35, i_36, i_37, i_38, i_39, i_40, i_41, i_42, i_43, i_44, i_45, i_46, i_47])))] [.ref a_0, .int 0, .int i_0] (fun u : Unit => [(a_0, .inr (12, [.int i_1, .ref a_1, .ref a_2, .ref a_3, .ref a_4, .ref a_5, .int i_2, .int i_3, .int i_4, .int i_5, .int i_6, .long j_0, .int i_7, .int i_8, .int i_9, .int i_10, .ref a_6, .ref a_7, .ref a_8, .ref a_9, .ref a_10, .ref a_11, .ref a_12, .ref a_13, .ref a_14, .ref a_15, .ref a_16, .ref a_17, .ref a_18, .int i_11, .int i_12, .int i_13, .int i_14, .int i_15, .int i_16, .ref a_19, .int i_17, .ref a_20])), (a_7, .inl (cy 1, 30, .inl (mm_g [i_18, i_19, i_20, i_21, i_22, i_23, i_24, i_25, i_26, i_27, i_28, i_29, i_30, i_31, i_32, i_33, i_34, i_35, i_36, i_37, i_38, i_39, i_40, i_41, i_0, i_43, i_44, i_45, i_46, i_47])))]) (fun u : Unit => True) 0 0 := by
  refine mm_begin (lv := [(0, .ref a_0), (1, .int 0), (2, .int i_0)]) (by decide) (Nat.le_of_ble_eq_true rfl) rfl ?_
  intro p e s m below meth c A ls R args Q H locs hRe hQ hAe hx hb hr hlocks hml hown hnm hts hsz hA hS hP hK hD hZ hl
  have hRf : R.frames = 0 := by rw [hRe]
  have hRl : R.locals = 0 := by rw [hRe]
  have hRc : R.cells = 0 := by rw [hRe]
  have hRs : R.slots = 0 := by rw [hRe]
  refine lv_aload_n hx hb dX12_tells_0 rfl (lv_at hl 0 rfl) ?_
  refine va_get (D := G) (ci := 12) (v := .ref a_7) (C := RX12) (T := TX12) (N := 38) hx hb hts (mm_i inlX12) hown hK.1 hP 0 rfl rfl 17 (by decide) (mm_h hts mm_w149) (fun _ h9 => h9) rfl dX12_tells_1 ?_
  refine lv_bipush (v := 24) hx hb dX12_tells_4 (by decide) ?_
  refine lv_iload_n hx hb dX12_tells_6 rfl (lv_at hl 1 rfl) ?_
  refine lv_iadd hx hb dX12_tells_7 ?_
  refine lv_topi (fun v1 ev1 => ?_)
  obtain rfl : v1 = 24 := ev1.trans (by decide)
  refine lv_iload_n hx hb dX12_tells_8 rfl (lv_at hl 2 rfl) ?_
  refine va_iast hx hb hK.1 hP hD hS 1 1 rfl rfl (mm_in mm_k24 (by decide)) dX12_tells_9 ?_
  clear hP hD hS
  clear H locs
  rw [show upd (mm_g [i_18, i_19, i_20, i_21, i_22, i_23, i_24, i_25, i_26, i_27, i_28, i_29, i_30, i_31, i_32, i_33, i_34, i_35, i_36, i_37, i_38, i_39, i_40, i_41, i_42, i_43, i_44, i_45, i_46, i_47]) (24 : Int32).toNatClampNeg i_0 = (mm_g [i_18, i_19, i_20, i_21, i_22, i_23, i_24, i_25, i_26, i_27, i_28, i_29, i_30, i_31, i_32, i_33, i_34, i_35, i_36, i_37, i_38, i_39, i_40, i_41, i_0, i_43, i_44, i_45, i_46, i_47]) from mm_gs2 24 30 (by decide) rfl rfl rfl]
  intro H locs (hP : va_P G vwCl [(a_0, .inr (12, [.int i_1, .ref a_1, .ref a_2, .ref a_3, .ref a_4, .ref a_5, .int i_2, .int i_3, .int i_4, .int i_5, .int i_6, .long j_0, .int i_7, .int i_8, .int i_9, .int i_10, .ref a_6, .ref a_7, .ref a_8, .ref a_9, .ref a_10, .ref a_11, .ref a_12, .ref a_13, .ref a_14, .ref a_15, .ref a_16, .ref a_17, .ref a_18, .int i_11, .int i_12, .int i_13, .int i_14, .int i_15, .int i_16, .ref a_19, .int i_17, .ref a_20])), (a_7, .inl (cy 1, 30, .inl (mm_g [i_18, i_19, i_20, i_21, i_22, i_23, i_24, i_25, i_26, i_27, i_28, i_29, i_30, i_31, i_32, i_33, i_34, i_35, i_36, i_37, i_38, i_39, i_40, i_41, i_0, i_43, i_44, i_45, i_46, i_47])))] H) (hD : va_D A [(a_0, .inr (12, [.int i_1, .ref a_1, .ref a_2, .ref a_3, .ref a_4, .ref a_5, .int i_2, .int i_3, .int i_4, .int i_5, .int i_6, .long j_0, .int i_7, .int i_8, .int i_9, .int i_10, .ref a_6, .ref a_7, .ref a_8, .ref a_9, .ref a_10, .ref a_11, .ref a_12, .ref a_13, .ref a_14, .ref a_15, .ref a_16, .ref a_17, .ref a_18, .int i_11, .int i_12, .int i_13, .int i_14, .int i_15, .int i_16, .ref a_19, .int i_17, .ref a_20])), (a_7, .inl (cy 1, 30, .inl (mm_g [i_18, i_19, i_20, i_21, i_22, i_23, i_24, i_25, i_26, i_27, i_28, i_29, i_30, i_31, i_32, i_33, i_34, i_35, i_36, i_37, i_38, i_39, i_40, i_41, i_0, i_43, i_44, i_45, i_46, i_47])))]) hS
  subst hAe
  rw [hQ]
  exact W.vret hx hb hr (fun t ht hW => ⟨⟨(), rfl, trivial, by rw [ht]; exact hP, hK.warm hW, hD⟩, hS.F ht⟩) hS.2.2 dX12_tells_10

set_option maxHeartbeats 4000000 in
set_option maxRecDepth 100000 in
theorem M33_X12_number (l : Launch) (G : va_G) (cy : Nat → ClassId) (sz : Nat) (a_0 : Nat) (i_0 : Int32) (a_1 : Nat) (a_2 : Nat) (a_3 : Nat) (a_4 : Nat) (a_5 : Nat) (i_1 : Int32) (i_2 : Int32) (i_3 : Int32) (i_4 : Int32) (i_5 : Int32) (j_0 : Int64) (i_6 : Int32) (i_7 : Int32) (i_8 : Int32) (i_9 : Int32) (a_6 : Nat) (a_7 : Nat) (a_8 : Nat) (a_9 : Nat) (a_10 : Nat) (a_11 : Nat) (a_12 : Nat) (a_13 : Nat) (a_14 : Nat) (a_15 : Nat) (a_16 : Nat) (a_17 : Nat) (a_18 : Nat) (i_10 : Int32) (i_11 : Int32) (i_12 : Int32) (i_13 : Int32) (i_14 : Int32) (i_15 : Int32) (a_19 : Nat) (i_16 : Int32) (a_20 : Nat) (f_0 : Nat → Int32) (h0 : mm_rg i_1 0 600) (h1 : mm_rg i_2 0 600) (h2 : mm_rg i_3 0 4) (h3 : mm_rg i_4 0 600) (h4 : mm_rg i_6 0 3) (h5 : mm_ar f_0 (-128) 127) (h6 : (i_4 : Int32).toInt ≤ (i_2 : Int32).toInt) (h7 : (i_2 : Int32).toInt ≤ (i_1 : Int32).toInt) (h8 : mm_tk i_3 i_4 i_2)  : mm_CI l yX12_number (mm_ws yX12_number cX12_number 4 (some .int)) ({ frames := 2, cells := 0, slots := 0, locals := 44 } : Room) G cy sz [(a_0, .inr (12, [.int i_0, .ref a_1, .ref a_2, .ref a_3, .ref a_4, .ref a_5, .int i_1, .int i_2, .int i_3, .int i_4, .int i_5, .long j_0, .int i_6, .int i_7, .int i_8, .int i_9, .ref a_6, .ref a_7, .ref a_8, .ref a_9, .ref a_10, .ref a_11, .ref a_12, .ref a_13, .ref a_14, .ref a_15, .ref a_16, .ref a_17, .ref a_18, .int i_10, .int i_11, .int i_12, .int i_13, .int i_14, .int i_15, .ref a_19, .int i_16, .ref a_20])), (a_5, .inl (cy 0, 600, .inl f_0))] [.ref a_0, .int 0, .int 99] (fun u : Int32 × Int32 × Int32 × Int32 × Int64 × Int32 × Int32 => [(a_0, .inr (12, [.int i_0, .ref a_1, .ref a_2, .ref a_3, .ref a_4, .ref a_5, .int i_1, .int u.1, .int u.2.1, .int u.2.2.1, .int u.2.2.2.1, .long u.2.2.2.2.1, .int u.2.2.2.2.2.1, .int u.2.2.2.2.2.2, .int i_8, .int i_9, .ref a_6, .ref a_7, .ref a_8, .ref a_9, .ref a_10, .ref a_11, .ref a_12, .ref a_13, .ref a_14, .ref a_15, .ref a_16, .ref a_17, .ref a_18, .int i_10, .int i_11, .int i_12, .int i_13, .int i_14, .int i_15, .ref a_19, .int i_16, .ref a_20])), (a_5, .inl (cy 0, 600, .inl f_0))]) (fun (r : Int32) (u : Int32 × Int32 × Int32 × Int32 × Int64 × Int32 × Int32) => mm_rg u.1 0 600 ∧ mm_rg u.2.1 0 4 ∧ mm_rg u.2.2.1 0 600 ∧ mm_rg u.2.2.2.2.2.1 0 3 ∧ (u.2.2.1 : Int32).toInt ≤ (u.1 : Int32).toInt ∧ (u.1 : Int32).toInt ≤ (i_1 : Int32).toInt ∧ mm_tk u.2.1 u.2.2.1 u.1 ∧ (i_4 : Int32).toInt ≤ (u.2.2.1 : Int32).toInt ∧ mm_b0 i_6 u.2.2.2.2.2.1 ∧ mm_rg r 0 99 ∧ (r : Int32).toInt ≤ (99 : Int32).toInt ∧ mm_nv u.2.2.2.2.2.1 r i_3 i_5) 0 0 := by
  refine mm_begin (lv := [(0, .ref a_0), (1, .int 0), (2, .int 99)]) (by decide) (Nat.le_of_ble_eq_true rfl) rfl ?_
  intro p e s m below meth c A ls R args Q H locs hRe hQ hAe hx hb hr hlocks hml hown hnm hts hsz hA hS hP hK hD hZ hl
  have hRf : R.frames = 2 := by rw [hRe]
  have hRl : R.locals = 44 := by rw [hRe]
  have hRc : R.cells = 0 := by rw [hRe]
  have hRs : R.slots = 0 := by rw [hRe]
  refine lv_aload_n hx hb dX12_number_0 rfl (lv_at hl 0 rfl) ?_
  refine va_get (D := G) (ci := 12) (v := .int i_6) (C := RX12) (T := TX12) (N := 38) hx hb hts (mm_i inlX12) hown hK.1 hP 0 rfl rfl 12 (by decide) (mm_h hts mm_w436) (fun _ h9 => h9) rfl dX12_number_1 ?_
  refine lv_if_eq (tgt := 9) hx hb dX12_number_4 (by decide) (fun c1 => ?_) (fun c1 => ?_)
  · have q2 := mm_eqI (lo := 0) (hi := 0) c1 h4 mm_k0 (by decide)
    refine lv_aload_n hx hb dX12_number_9 rfl (lv_at hl 0 rfl) ?_
    refine va_get (D := G) (ci := 12) (v := .int i_3) (C := RX12) (T := TX12) (N := 38) hx hb hts (mm_i inlX12) hown hK.1 hP 0 rfl rfl 8 (by decide) (mm_h hts mm_w432) (fun _ h9 => h9) rfl dX12_number_10 ?_
    refine lv_iconst (v := 2) hx hb dX12_number_13 (by decide) ?_
    refine lv_icmp_eq (tgt := 24) hx hb dX12_number_14 (by decide) (fun c3 => ?_) (fun c3 => ?_)
    · have q4 := mm_eqI (lo := 2) (hi := 2) c3 h2 mm_k2 (by decide)
      refine lv_aload_n hx hb dX12_number_24 rfl (lv_at hl 0 rfl) ?_
      refine va_get (D := G) (ci := 12) (v := .int i_5) (C := RX12) (T := TX12) (N := 38) hx hb hts (mm_i inlX12) hown hK.1 hP 0 rfl rfl 10 (by decide) (mm_h hts mm_w456) (fun _ h9 => h9) rfl dX12_number_25 ?_
      obtain ⟨v5, ev5⟩ : ∃ y : Int64, y = i_5.toInt64 := ⟨_, rfl⟩
      refine lv_i2l hx hb dX12_number_28 ev5.symm ?_
      have rv5 : mm_rl v5 (-2147483648) 2147483647 := mm_i2l ev5 (mm_top i_5)
      refine lv_iload_n hx hb dX12_number_29 rfl (lv_at hl 1 rfl) ?_
      refine lv_i2l (v := 0) hx hb dX12_number_30 (by decide) ?_
      refine lv_iload_n hx hb dX12_number_31 rfl (lv_at hl 2 rfl) ?_
      refine lv_i2l (v := 99) hx hb dX12_number_32 (by decide) ?_
      refine mm_finir (va_runS (As := [.long v5, .long 0, .long 99]) (rest := []) ⟨hx, hb, hml, hown, hts⟩ (M7_X12_in l G cy H.size v5 99 ) (va_cwS 3 hts (mm_gS mm_w191 mm_w192 mm_w5 mm_w193) rfl rfl rfl hs_X12_in ⟨by rw [hRf]; exact Nat.le_of_ble_eq_true rfl, by rw [hRl]; exact Nat.le_of_ble_eq_true rfl⟩) (mm_preS hK hZ hS hA hP hD [] rfl rfl) rfl rfl hl.1 rfl (lv_room (Nat.le_of_ble_eq_true rfl)) dX12_number_33 ⟨by rw [hRc]; exact Nat.le_of_ble_eq_true rfl, by rw [hRs]; exact Nat.le_of_ble_eq_true rfl⟩) hP hD hS hA [] rfl (fun _ => rfl) ?_
      clear hP hD hS
      clear H locs
      intro v6 _u H locs hw hP hD hS
      rcases hw with ⟨rfl, w7⟩ | ⟨rfl, w8, w9, w10, w11⟩
      · refine lv_if_ne (tgt := 46) hx hb dX12_number_36 (by decide) (fun c12 => ?_) (fun c12 => ?_)
        · exact absurd rfl (mm_ne c12)
        · refine lv_aload_n hx hb dX12_number_39 rfl (lv_at hl 0 rfl) ?_
          refine lv_iconst (v := 2) hx hb dX12_number_40 (by decide) ?_
          refine mm_finv (va_runV (As := [.int 2]) (rest := []) ⟨hx, hb, hml, hown, hts⟩ (M29_X12_fails l G cy H.size a_0 i_0 a_1 a_2 a_3 a_4 a_5 i_1 i_2 i_3 i_4 i_5 j_0 i_6 i_7 i_8 i_9 a_6 a_7 a_8 a_9 a_10 a_11 a_12 a_13 a_14 a_15 a_16 a_17 a_18 i_10 i_11 i_12 i_13 i_14 i_15 a_19 i_16 a_20 h3 (mm_wk q2 (by decide))) (cwV 1 hts (mm_gV mm_w483 mm_w484 mm_w485 mm_w5 mm_w486) rfl rfl rfl hd_X12_fails ⟨by rw [hRf]; exact Nat.le_of_ble_eq_true rfl, by rw [hRl]; exact Nat.le_of_ble_eq_true rfl⟩) (mm_preV hK hZ hS hA hP hD [0] rfl rfl 0 rfl rfl rfl) rfl rfl hl.1 rfl (lv_room (Nat.le_of_ble_eq_true rfl)) dX12_number_41 ⟨by rw [hRc]; exact Nat.le_of_ble_eq_true rfl, by rw [hRs]; exact Nat.le_of_ble_eq_true rfl⟩) hP hD hS hA (fun u : Int32 × Int32 => [(a_0, .inr (12, [.int i_0, .ref a_1, .ref a_2, .ref a_3, .ref a_4, .ref a_5, .int i_1, .int i_2, .int i_3, .int i_4, .int i_5, .long j_0, .int u.1, .int u.2, .int i_8, .int i_9, .ref a_6, .ref a_7, .ref a_8, .ref a_9, .ref a_10, .ref a_11, .ref a_12, .ref a_13, .ref a_14, .ref a_15, .ref a_16, .ref a_17, .ref a_18, .int i_10, .int i_11, .int i_12, .int i_13, .int i_14, .int i_15, .ref a_19, .int i_16, .ref a_20])), (a_5, .inl (cy 0, 600, .inl f_0))]) [0] [1] (n := 2) (fun _ => rfl) (by decide +kernel) (by decide +kernel) rfl (fun _ => rfl) (wr := [(a_5, .inl (cy 0, 600, .inl f_0))]) rfl (fun _ => rfl) (fun _ => rfl) ?_
          clear hP hD hS
          clear H locs
          intro u
          obtain ⟨n13, n14⟩ := u
          intro H locs hw (hP : va_P G vwCl [(a_0, .inr (12, [.int i_0, .ref a_1, .ref a_2, .ref a_3, .ref a_4, .ref a_5, .int i_1, .int i_2, .int i_3, .int i_4, .int i_5, .long j_0, .int n13, .int n14, .int i_8, .int i_9, .ref a_6, .ref a_7, .ref a_8, .ref a_9, .ref a_10, .ref a_11, .ref a_12, .ref a_13, .ref a_14, .ref a_15, .ref a_16, .ref a_17, .ref a_18, .int i_10, .int i_11, .int i_12, .int i_13, .int i_14, .int i_15, .ref a_19, .int i_16, .ref a_20])), (a_5, .inl (cy 0, 600, .inl f_0))] H) (hD : va_D A [(a_0, .inr (12, [.int i_0, .ref a_1, .ref a_2, .ref a_3, .ref a_4, .ref a_5, .int i_1, .int i_2, .int i_3, .int i_4, .int i_5, .long j_0, .int n13, .int n14, .int i_8, .int i_9, .ref a_6, .ref a_7, .ref a_8, .ref a_9, .ref a_10, .ref a_11, .ref a_12, .ref a_13, .ref a_14, .ref a_15, .ref a_16, .ref a_17, .ref a_18, .int i_10, .int i_11, .int i_12, .int i_13, .int i_14, .int i_15, .ref a_19, .int i_16, .ref a_20])), (a_5, .inl (cy 0, 600, .inl f_0))]) hS
          have w15 := hw
          refine lv_iload_n hx hb dX12_number_44 rfl (lv_at hl 1 rfl) ?_
          have w16 : (i_4 : Int32).toInt ≤ (i_4 : Int32).toInt := (Int.le_refl _)
          have w17 : mm_b0 i_6 n13 := (mm_b0_n w15 (by decide))
          have w18 : (0 : Int32).toInt ≤ (99 : Int32).toInt := (mm_leC mm_k0 mm_k99 (by decide))
          have w19 : mm_nv n13 0 i_3 i_5 := (mm_nv_n w15 (by decide))
          subst hAe
          rw [hQ]
          exact W.iret (v := 0) hx hb hr (fun t ht hW => ⟨⟨0, (i_2, i_3, i_4, i_5, j_0, n13, n14), rfl, ⟨h1, (mm_wk q4 (by decide)), h3, (mm_wk w15 (by decide)), h6, h7, h8, w16, w17, ⟨(mm_wk mm_k0 (by decide)), w18, w19⟩⟩, by rw [ht]; exact hP, hK.warm hW, hD⟩, hS.F ht⟩) hS.2.2 dX12_number_45
      · have q20 := mm_meetl (lo := 0) (hi := 2147483647) w8 rv5 (by decide)
        have q21 := mm_meet (lo := 0) (hi := 2147483647) (mm_l2x ev5 q20) (mm_top i_5) (by decide)
        have q22 := mm_leLl w10 q20 mm_kl99
        have q23 := mm_meet (lo := 0) (hi := 99) (mm_l2x ev5 q22) q21 (by decide)
        refine lv_if_ne (tgt := 46) hx hb dX12_number_36 (by decide) (fun c24 => ?_) (fun c24 => ?_)
        · refine lv_aload_n hx hb dX12_number_46 rfl (lv_at hl 0 rfl) ?_
          refine va_get (D := G) (ci := 12) (v := .int i_5) (C := RX12) (T := TX12) (N := 38) hx hb hts (mm_i inlX12) hown hK.1 hP 0 rfl rfl 10 (by decide) (mm_h hts mm_w456) (fun _ h9 => h9) rfl dX12_number_47 ?_
          refine lv_istore_n (lv' := [(3, .int i_5), (0, .ref a_0), (1, .int 0), (2, .int 99)]) hx hb dX12_number_50 rfl hl (by decide) rfl ?_
          clear hl
          clear ls
          intro ls hl
          refine lv_aload_n hx hb dX12_number_51 rfl (lv_at hl 1 rfl) ?_
          refine mm_finv (va_runV (As := []) (rest := []) ⟨hx, hb, hml, hown, hts⟩ (M22_X12_next l G cy H.size a_0 i_0 a_1 a_2 a_3 a_4 a_5 i_1 i_2 i_3 i_4 i_5 j_0 i_6 i_7 i_8 i_9 a_6 a_7 a_8 a_9 a_10 a_11 a_12 a_13 a_14 a_15 a_16 a_17 a_18 i_10 i_11 i_12 i_13 i_14 i_15 a_19 i_16 a_20 f_0 h0 h1 (mm_wk q4 (by decide)) h3 h5 h7) (cwV 0 hts (mm_gV mm_w451 mm_w452 mm_w453 mm_w5 mm_w454) rfl rfl rfl hd_X12_next ⟨by rw [hRf]; exact Nat.le_of_ble_eq_true rfl, by rw [hRl]; exact Nat.le_of_ble_eq_true rfl⟩) (mm_preV hK hZ hS hA hP hD [0, 1] rfl rfl 0 rfl rfl rfl) rfl rfl hl.1 rfl (lv_room (Nat.le_of_ble_eq_true rfl)) dX12_number_52 ⟨by rw [hRc]; exact Nat.le_of_ble_eq_true rfl, by rw [hRs]; exact Nat.le_of_ble_eq_true rfl⟩) hP hD hS hA (fun u : Int32 × Int32 × Int32 × Int32 × Int64 => [(a_0, .inr (12, [.int i_0, .ref a_1, .ref a_2, .ref a_3, .ref a_4, .ref a_5, .int i_1, .int u.1, .int u.2.1, .int u.2.2.1, .int u.2.2.2.1, .long u.2.2.2.2, .int i_6, .int i_7, .int i_8, .int i_9, .ref a_6, .ref a_7, .ref a_8, .ref a_9, .ref a_10, .ref a_11, .ref a_12, .ref a_13, .ref a_14, .ref a_15, .ref a_16, .ref a_17, .ref a_18, .int i_10, .int i_11, .int i_12, .int i_13, .int i_14, .int i_15, .ref a_19, .int i_16, .ref a_20])), (a_5, .inl (cy 0, 600, .inl f_0))]) [0, 1] [] (n := 2) (fun _ => rfl) (by decide +kernel) (by decide +kernel) rfl (fun _ => rfl) (wr := []) rfl (fun _ => rfl) (fun _ => rfl) ?_
          clear hP hD hS
          clear H locs
          intro u
          obtain ⟨n25, n26, n27, n28, n29⟩ := u
          intro H locs hw (hP : va_P G vwCl [(a_0, .inr (12, [.int i_0, .ref a_1, .ref a_2, .ref a_3, .ref a_4, .ref a_5, .int i_1, .int n25, .int n26, .int n27, .int n28, .long n29, .int i_6, .int i_7, .int i_8, .int i_9, .ref a_6, .ref a_7, .ref a_8, .ref a_9, .ref a_10, .ref a_11, .ref a_12, .ref a_13, .ref a_14, .ref a_15, .ref a_16, .ref a_17, .ref a_18, .int i_10, .int i_11, .int i_12, .int i_13, .int i_14, .int i_15, .ref a_19, .int i_16, .ref a_20])), (a_5, .inl (cy 0, 600, .inl f_0))] H) (hD : va_D A [(a_0, .inr (12, [.int i_0, .ref a_1, .ref a_2, .ref a_3, .ref a_4, .ref a_5, .int i_1, .int n25, .int n26, .int n27, .int n28, .long n29, .int i_6, .int i_7, .int i_8, .int i_9, .ref a_6, .ref a_7, .ref a_8, .ref a_9, .ref a_10, .ref a_11, .ref a_12, .ref a_13, .ref a_14, .ref a_15, .ref a_16, .ref a_17, .ref a_18, .int i_10, .int i_11, .int i_12, .int i_13, .int i_14, .int i_15, .ref a_19, .int i_16, .ref a_20])), (a_5, .inl (cy 0, 600, .inl f_0))]) hS
          obtain ⟨w30, w31, w32, w33, w34, w35, w36⟩ := hw
          replace w33 : (n27 : Int32).toInt ≤ (n25 : Int32).toInt := w33
          replace w34 : (n25 : Int32).toInt ≤ (i_1 : Int32).toInt := w34
          replace w35 : mm_tk n26 n27 n25 := w35
          replace w36 : (i_2 : Int32).toInt ≤ (n27 : Int32).toInt := w36
          refine lv_iload_n hx hb dX12_number_55 rfl (lv_at hl 0 rfl) ?_
          have w37 : (i_4 : Int32).toInt ≤ (n27 : Int32).toInt := (by have := h6; have := w36; omega)
          have w38 : mm_b0 i_6 i_6 := (fun h => h)
          have w39 : (i_5 : Int32).toInt ≤ (99 : Int32).toInt := (mm_leC q23 mm_k99 (by decide))
          have w40 : mm_nv i_6 i_5 i_3 i_5 := (mm_nv_y q4 (by decide))
          subst hAe
          rw [hQ]
          exact W.iret (v := i_5) hx hb hr (fun t ht hW => ⟨⟨i_5, (n25, n26, n27, n28, n29, i_6, i_7), rfl, ⟨w30, w31, w32, (mm_wk q2 (by decide)), w33, w34, w35, w37, w38, ⟨q23, w39, w40⟩⟩, by rw [ht]; exact hP, hK.warm hW, hD⟩, hS.F ht⟩) hS.2.2 dX12_number_56
        · exact mm_eqN c24.symm mm_k0 mm_k1 (by decide)
    · refine lv_aload_n hx hb dX12_number_17 rfl (lv_at hl 0 rfl) ?_
      refine lv_iconst (v := 1) hx hb dX12_number_18 (by decide) ?_
      refine mm_finv (va_runV (As := [.int 1]) (rest := []) ⟨hx, hb, hml, hown, hts⟩ (M27_X12_fails l G cy H.size a_0 i_0 a_1 a_2 a_3 a_4 a_5 i_1 i_2 i_3 i_4 i_5 j_0 i_6 i_7 i_8 i_9 a_6 a_7 a_8 a_9 a_10 a_11 a_12 a_13 a_14 a_15 a_16 a_17 a_18 i_10 i_11 i_12 i_13 i_14 i_15 a_19 i_16 a_20 h3 (mm_wk q2 (by decide))) (cwV 1 hts (mm_gV mm_w483 mm_w484 mm_w485 mm_w5 mm_w486) rfl rfl rfl hd_X12_fails ⟨by rw [hRf]; exact Nat.le_of_ble_eq_true rfl, by rw [hRl]; exact Nat.le_of_ble_eq_true rfl⟩) (mm_preV hK hZ hS hA hP hD [0] rfl rfl 0 rfl rfl rfl) rfl rfl hl.1 rfl (lv_room (Nat.le_of_ble_eq_true rfl)) dX12_number_19 ⟨by rw [hRc]; exact Nat.le_of_ble_eq_true rfl, by rw [hRs]; exact Nat.le_of_ble_eq_true rfl⟩) hP hD hS hA (fun u : Int32 × Int32 => [(a_0, .inr (12, [.int i_0, .ref a_1, .ref a_2, .ref a_3, .ref a_4, .ref a_5, .int i_1, .int i_2, .int i_3, .int i_4, .int i_5, .long j_0, .int u.1, .int u.2, .int i_8, .int i_9, .ref a_6, .ref a_7, .ref a_8, .ref a_9, .ref a_10, .ref a_11, .ref a_12, .ref a_13, .ref a_14, .ref a_15, .ref a_16, .ref a_17, .ref a_18, .int i_10, .int i_11, .int i_12, .int i_13, .int i_14, .int i_15, .ref a_19, .int i_16, .ref a_20])), (a_5, .inl (cy 0, 600, .inl f_0))]) [0] [1] (n := 2) (fun _ => rfl) (by decide +kernel) (by decide +kernel) rfl (fun _ => rfl) (wr := [(a_5, .inl (cy 0, 600, .inl f_0))]) rfl (fun _ => rfl) (fun _ => rfl) ?_
      clear hP hD hS
      clear H locs
      intro u
      obtain ⟨n41, n42⟩ := u
      intro H locs hw (hP : va_P G vwCl [(a_0, .inr (12, [.int i_0, .ref a_1, .ref a_2, .ref a_3, .ref a_4, .ref a_5, .int i_1, .int i_2, .int i_3, .int i_4, .int i_5, .long j_0, .int n41, .int n42, .int i_8, .int i_9, .ref a_6, .ref a_7, .ref a_8, .ref a_9, .ref a_10, .ref a_11, .ref a_12, .ref a_13, .ref a_14, .ref a_15, .ref a_16, .ref a_17, .ref a_18, .int i_10, .int i_11, .int i_12, .int i_13, .int i_14, .int i_15, .ref a_19, .int i_16, .ref a_20])), (a_5, .inl (cy 0, 600, .inl f_0))] H) (hD : va_D A [(a_0, .inr (12, [.int i_0, .ref a_1, .ref a_2, .ref a_3, .ref a_4, .ref a_5, .int i_1, .int i_2, .int i_3, .int i_4, .int i_5, .long j_0, .int n41, .int n42, .int i_8, .int i_9, .ref a_6, .ref a_7, .ref a_8, .ref a_9, .ref a_10, .ref a_11, .ref a_12, .ref a_13, .ref a_14, .ref a_15, .ref a_16, .ref a_17, .ref a_18, .int i_10, .int i_11, .int i_12, .int i_13, .int i_14, .int i_15, .ref a_19, .int i_16, .ref a_20])), (a_5, .inl (cy 0, 600, .inl f_0))]) hS
      have w43 := hw
      refine lv_iload_n hx hb dX12_number_22 rfl (lv_at hl 1 rfl) ?_
      have w44 : (i_4 : Int32).toInt ≤ (i_4 : Int32).toInt := (Int.le_refl _)
      have w45 : mm_b0 i_6 n41 := (mm_b0_n w43 (by decide))
      have w46 : (0 : Int32).toInt ≤ (99 : Int32).toInt := (mm_leC mm_k0 mm_k99 (by decide))
      have w47 : mm_nv n41 0 i_3 i_5 := (mm_nv_n w43 (by decide))
      subst hAe
      rw [hQ]
      exact W.iret (v := 0) hx hb hr (fun t ht hW => ⟨⟨0, (i_2, i_3, i_4, i_5, j_0, n41, n42), rfl, ⟨h1, h2, h3, (mm_wk w43 (by decide)), h6, h7, h8, w44, w45, ⟨(mm_wk mm_k0 (by decide)), w46, w47⟩⟩, by rw [ht]; exact hP, hK.warm hW, hD⟩, hS.F ht⟩) hS.2.2 dX12_number_23
  · have q48 := mm_neL (lo := 1) (mm_ne c1) h4 mm_k0 (by decide) (by decide)
    refine lv_iload_n hx hb dX12_number_7 rfl (lv_at hl 1 rfl) ?_
    have w49 : (i_4 : Int32).toInt ≤ (i_4 : Int32).toInt := (Int.le_refl _)
    have w50 : mm_b0 i_6 i_6 := (fun h => h)
    have w51 : (0 : Int32).toInt ≤ (99 : Int32).toInt := (mm_leC mm_k0 mm_k99 (by decide))
    have w52 : mm_nv i_6 0 i_3 i_5 := (mm_nv_n q48 (by decide))
    subst hAe
    rw [hQ]
    exact W.iret (v := 0) hx hb hr (fun t ht hW => ⟨⟨0, (i_2, i_3, i_4, i_5, j_0, i_6, i_7), rfl, ⟨h1, h2, h3, (mm_wk q48 (by decide)), h6, h7, h8, w49, w50, ⟨(mm_wk mm_k0 (by decide)), w51, w52⟩⟩, by rw [ht]; exact hP, hK.warm hW, hD⟩, hS.F ht⟩) hS.2.2 dX12_number_8

set_option maxHeartbeats 4000000 in
set_option maxRecDepth 100000 in
theorem M34_X12_number_ (l : Launch) (G : va_G) (cy : Nat → ClassId) (sz : Nat) (a_0 : Nat) (j_0 : Int64) (i_0 : Int32) (a_1 : Nat) (a_2 : Nat) (a_3 : Nat) (a_4 : Nat) (a_5 : Nat) (i_1 : Int32) (i_2 : Int32) (i_3 : Int32) (i_4 : Int32) (i_5 : Int32) (j_1 : Int64) (i_6 : Int32) (i_7 : Int32) (i_8 : Int32) (i_9 : Int32) (a_6 : Nat) (a_7 : Nat) (a_8 : Nat) (a_9 : Nat) (a_10 : Nat) (a_11 : Nat) (a_12 : Nat) (a_13 : Nat) (a_14 : Nat) (a_15 : Nat) (a_16 : Nat) (a_17 : Nat) (a_18 : Nat) (i_10 : Int32) (i_11 : Int32) (i_12 : Int32) (i_13 : Int32) (i_14 : Int32) (i_15 : Int32) (a_19 : Nat) (i_16 : Int32) (a_20 : Nat) (f_0 : Nat → Int32) (h0 : mm_rg i_1 0 600) (h1 : mm_rg i_2 0 600) (h2 : mm_rg i_3 0 4) (h3 : mm_rg i_4 0 600) (h4 : mm_rg i_6 0 3) (h5 : mm_ar f_0 (-128) 127) (h6 : (i_4 : Int32).toInt ≤ (i_2 : Int32).toInt) (h7 : (i_2 : Int32).toInt ≤ (i_1 : Int32).toInt) (h8 : mm_tk i_3 i_4 i_2)  : mm_CI l yX12_number_ (mm_ws yX12_number_ cX12_number_ 5 (some .int)) ({ frames := 4, cells := 0, slots := 0, locals := 88 } : Room) G cy sz [(a_0, .inr (12, [.int i_0, .ref a_1, .ref a_2, .ref a_3, .ref a_4, .ref a_5, .int i_1, .int i_2, .int i_3, .int i_4, .int i_5, .long j_1, .int i_6, .int i_7, .int i_8, .int i_9, .ref a_6, .ref a_7, .ref a_8, .ref a_9, .ref a_10, .ref a_11, .ref a_12, .ref a_13, .ref a_14, .ref a_15, .ref a_16, .ref a_17, .ref a_18, .int i_10, .int i_11, .int i_12, .int i_13, .int i_14, .int i_15, .ref a_19, .int i_16, .ref a_20])), (a_5, .inl (cy 0, 600, .inl f_0))] [.ref a_0, .long j_0, .int 0, .int 99] (fun u : Int32 × Int32 × Int32 × Int32 × Int64 × Int32 × Int32 => [(a_0, .inr (12, [.int i_0, .ref a_1, .ref a_2, .ref a_3, .ref a_4, .ref a_5, .int i_1, .int u.1, .int u.2.1, .int u.2.2.1, .int u.2.2.2.1, .long u.2.2.2.2.1, .int u.2.2.2.2.2.1, .int u.2.2.2.2.2.2, .int i_8, .int i_9, .ref a_6, .ref a_7, .ref a_8, .ref a_9, .ref a_10, .ref a_11, .ref a_12, .ref a_13, .ref a_14, .ref a_15, .ref a_16, .ref a_17, .ref a_18, .int i_10, .int i_11, .int i_12, .int i_13, .int i_14, .int i_15, .ref a_19, .int i_16, .ref a_20])), (a_5, .inl (cy 0, 600, .inl f_0))]) (fun (r : Int32) (u : Int32 × Int32 × Int32 × Int32 × Int64 × Int32 × Int32) => mm_rg u.1 0 600 ∧ mm_rg u.2.1 0 4 ∧ mm_rg u.2.2.1 0 600 ∧ mm_rg u.2.2.2.2.2.1 0 3 ∧ (u.2.2.1 : Int32).toInt ≤ (u.1 : Int32).toInt ∧ (u.1 : Int32).toInt ≤ (i_1 : Int32).toInt ∧ mm_tk u.2.1 u.2.2.1 u.1 ∧ (i_4 : Int32).toInt ≤ (u.2.2.1 : Int32).toInt ∧ mm_rg r 0 99) 0 0 := by
  refine mm_begin (lv := [(0, .ref a_0), (1, .long j_0), (3, .int 0), (4, .int 99)]) (by decide) (Nat.le_of_ble_eq_true rfl) rfl ?_
  intro p e s m below meth c A ls R args Q H locs hRe hQ hAe hx hb hr hlocks hml hown hnm hts hsz hA hS hP hK hD hZ hl
  have hRf : R.frames = 4 := by rw [hRe]
  have hRl : R.locals = 88 := by rw [hRe]
  have hRc : R.cells = 0 := by rw [hRe]
  have hRs : R.slots = 0 := by rw [hRe]
  refine lv_aload_n hx hb dX12_number__0 rfl (lv_at hl 0 rfl) ?_
  refine lv_lload_n hx hb dX12_number__1 rfl (lv_at hl 1 rfl) ?_
  refine mm_finv (va_runV (As := [.long j_0]) (rest := []) ⟨hx, hb, hml, hown, hts⟩ (M28_X12_asks l G cy H.size a_0 j_0 i_0 a_1 a_2 a_3 a_4 a_5 i_1 i_2 i_3 i_4 i_5 j_1 i_6 i_7 i_8 i_9 a_6 a_7 a_8 a_9 a_10 a_11 a_12 a_13 a_14 a_15 a_16 a_17 a_18 i_10 i_11 i_12 i_13 i_14 i_15 a_19 i_16 a_20 f_0 h0 h1 h2 h3 h4 h5 h6 h7 h8) (cwV 1 hts (mm_gV mm_w471 mm_w472 mm_w473 mm_w5 mm_w474) rfl rfl rfl hd_X12_asks ⟨by rw [hRf]; exact Nat.le_of_ble_eq_true rfl, by rw [hRl]; exact Nat.le_of_ble_eq_true rfl⟩) (mm_preV hK hZ hS hA hP hD [0, 1] rfl rfl 0 rfl rfl rfl) rfl rfl hl.1 rfl (lv_room (Nat.le_of_ble_eq_true rfl)) dX12_number__2 ⟨by rw [hRc]; exact Nat.le_of_ble_eq_true rfl, by rw [hRs]; exact Nat.le_of_ble_eq_true rfl⟩) hP hD hS hA (fun u : Int32 × Int32 × Int32 × Int32 × Int64 × Int32 × Int32 => [(a_0, .inr (12, [.int i_0, .ref a_1, .ref a_2, .ref a_3, .ref a_4, .ref a_5, .int i_1, .int u.1, .int u.2.1, .int u.2.2.1, .int u.2.2.2.1, .long u.2.2.2.2.1, .int u.2.2.2.2.2.1, .int u.2.2.2.2.2.2, .int i_8, .int i_9, .ref a_6, .ref a_7, .ref a_8, .ref a_9, .ref a_10, .ref a_11, .ref a_12, .ref a_13, .ref a_14, .ref a_15, .ref a_16, .ref a_17, .ref a_18, .int i_10, .int i_11, .int i_12, .int i_13, .int i_14, .int i_15, .ref a_19, .int i_16, .ref a_20])), (a_5, .inl (cy 0, 600, .inl f_0))]) [0, 1] [] (n := 2) (fun _ => rfl) (by decide +kernel) (by decide +kernel) rfl (fun _ => rfl) (wr := []) rfl (fun _ => rfl) (fun _ => rfl) ?_
  clear hP hD hS
  clear H locs
  intro u
  obtain ⟨n1, n2, n3, n4, n5, n6, n7⟩ := u
  intro H locs hw (hP : va_P G vwCl [(a_0, .inr (12, [.int i_0, .ref a_1, .ref a_2, .ref a_3, .ref a_4, .ref a_5, .int i_1, .int n1, .int n2, .int n3, .int n4, .long n5, .int n6, .int n7, .int i_8, .int i_9, .ref a_6, .ref a_7, .ref a_8, .ref a_9, .ref a_10, .ref a_11, .ref a_12, .ref a_13, .ref a_14, .ref a_15, .ref a_16, .ref a_17, .ref a_18, .int i_10, .int i_11, .int i_12, .int i_13, .int i_14, .int i_15, .ref a_19, .int i_16, .ref a_20])), (a_5, .inl (cy 0, 600, .inl f_0))] H) (hD : va_D A [(a_0, .inr (12, [.int i_0, .ref a_1, .ref a_2, .ref a_3, .ref a_4, .ref a_5, .int i_1, .int n1, .int n2, .int n3, .int n4, .long n5, .int n6, .int n7, .int i_8, .int i_9, .ref a_6, .ref a_7, .ref a_8, .ref a_9, .ref a_10, .ref a_11, .ref a_12, .ref a_13, .ref a_14, .ref a_15, .ref a_16, .ref a_17, .ref a_18, .int i_10, .int i_11, .int i_12, .int i_13, .int i_14, .int i_15, .ref a_19, .int i_16, .ref a_20])), (a_5, .inl (cy 0, 600, .inl f_0))]) hS
  obtain ⟨w8, w9, w10, w11, w12, w13, w14, w15⟩ := hw
  replace w12 : (n3 : Int32).toInt ≤ (n1 : Int32).toInt := w12
  replace w13 : (n1 : Int32).toInt ≤ (i_1 : Int32).toInt := w13
  replace w14 : mm_tk n2 n3 n1 := w14
  replace w15 : (i_4 : Int32).toInt ≤ (n3 : Int32).toInt := w15
  refine lv_aload_n hx hb dX12_number__5 rfl (lv_at hl 0 rfl) ?_
  refine lv_iload_n hx hb dX12_number__6 rfl (lv_at hl 2 rfl) ?_
  refine lv_iload hx hb dX12_number__7 (lv_at hl 3 rfl) ?_
  refine mm_fini (va_runV (As := [.int 0, .int 99]) (rest := []) ⟨hx, hb, hml, hown, hts⟩ (M33_X12_number l G cy H.size a_0 i_0 a_1 a_2 a_3 a_4 a_5 i_1 n1 n2 n3 n4 n5 n6 n7 i_8 i_9 a_6 a_7 a_8 a_9 a_10 a_11 a_12 a_13 a_14 a_15 a_16 a_17 a_18 i_10 i_11 i_12 i_13 i_14 i_15 a_19 i_16 a_20 f_0 h0 w8 w9 w10 w11 h5 w12 w13 w14) (cwV 2 hts (mm_gV mm_w491 mm_w492 mm_w493 mm_w5 mm_w494) rfl rfl rfl hd_X12_number ⟨by rw [hRf]; exact Nat.le_of_ble_eq_true rfl, by rw [hRl]; exact Nat.le_of_ble_eq_true rfl⟩) (mm_preV hK hZ hS hA hP hD [0, 1] rfl rfl 0 rfl rfl rfl) rfl rfl hl.1 rfl (lv_room (Nat.le_of_ble_eq_true rfl)) dX12_number__9 ⟨by rw [hRc]; exact Nat.le_of_ble_eq_true rfl, by rw [hRs]; exact Nat.le_of_ble_eq_true rfl⟩) hP hD hS hA (fun u : Int32 × Int32 × Int32 × Int32 × Int64 × Int32 × Int32 => [(a_0, .inr (12, [.int i_0, .ref a_1, .ref a_2, .ref a_3, .ref a_4, .ref a_5, .int i_1, .int u.1, .int u.2.1, .int u.2.2.1, .int u.2.2.2.1, .long u.2.2.2.2.1, .int u.2.2.2.2.2.1, .int u.2.2.2.2.2.2, .int i_8, .int i_9, .ref a_6, .ref a_7, .ref a_8, .ref a_9, .ref a_10, .ref a_11, .ref a_12, .ref a_13, .ref a_14, .ref a_15, .ref a_16, .ref a_17, .ref a_18, .int i_10, .int i_11, .int i_12, .int i_13, .int i_14, .int i_15, .ref a_19, .int i_16, .ref a_20])), (a_5, .inl (cy 0, 600, .inl f_0))]) [0, 1] [] (n := 2) (fun _ => rfl) (by decide +kernel) (by decide +kernel) rfl (fun _ => rfl) (wr := []) rfl (fun _ => rfl) (fun _ => rfl) ?_
  clear hP hD hS
  clear H locs
  intro v23 u
  obtain ⟨n16, n17, n18, n19, n20, n21, n22⟩ := u
  intro H locs hw (hP : va_P G vwCl [(a_0, .inr (12, [.int i_0, .ref a_1, .ref a_2, .ref a_3, .ref a_4, .ref a_5, .int i_1, .int n16, .int n17, .int n18, .int n19, .long n20, .int n21, .int n22, .int i_8, .int i_9, .ref a_6, .ref a_7, .ref a_8, .ref a_9, .ref a_10, .ref a_11, .ref a_12, .ref a_13, .ref a_14, .ref a_15, .ref a_16, .ref a_17, .ref a_18, .int i_10, .int i_11, .int i_12, .int i_13, .int i_14, .int i_15, .ref a_19, .int i_16, .ref a_20])), (a_5, .inl (cy 0, 600, .inl f_0))] H) (hD : va_D A [(a_0, .inr (12, [.int i_0, .ref a_1, .ref a_2, .ref a_3, .ref a_4, .ref a_5, .int i_1, .int n16, .int n17, .int n18, .int n19, .long n20, .int n21, .int n22, .int i_8, .int i_9, .ref a_6, .ref a_7, .ref a_8, .ref a_9, .ref a_10, .ref a_11, .ref a_12, .ref a_13, .ref a_14, .ref a_15, .ref a_16, .ref a_17, .ref a_18, .int i_10, .int i_11, .int i_12, .int i_13, .int i_14, .int i_15, .ref a_19, .int i_16, .ref a_20])), (a_5, .inl (cy 0, 600, .inl f_0))]) hS
  obtain ⟨w24, w25, w26, w27, w28, w29, w30, w31, w32, hw⟩ := hw
  replace w28 : (n18 : Int32).toInt ≤ (n16 : Int32).toInt := w28
  replace w29 : (n16 : Int32).toInt ≤ (i_1 : Int32).toInt := w29
  replace w30 : mm_tk n17 n18 n16 := w30
  replace w31 : (n3 : Int32).toInt ≤ (n18 : Int32).toInt := w31
  replace w32 : mm_b0 n6 n21 := w32
  obtain ⟨w33, w34, w35⟩ := hw
  replace w34 : (v23 : Int32).toInt ≤ (99 : Int32).toInt := w34
  replace w35 : mm_nv n21 v23 n2 n4 := w35
  have w36 : (i_4 : Int32).toInt ≤ (n18 : Int32).toInt := (by have := w15; have := w31; omega)
  subst hAe
  rw [hQ]
  exact W.iret (v := v23) hx hb hr (fun t ht hW => ⟨⟨v23, (n16, n17, n18, n19, n20, n21, n22), rfl, ⟨w24, w25, w26, w27, w28, w29, w30, w36, w33⟩, by rw [ht]; exact hP, hK.warm hW, hD⟩, hS.F ht⟩) hS.2.2 dX12_number__12

set_option maxHeartbeats 4000000 in
set_option maxRecDepth 100000 in
theorem M35_X12_tells (l : Launch) (G : va_G) (cy : Nat → ClassId) (sz : Nat) (a_0 : Nat) (i_0 : Int32) (i_1 : Int32) (a_1 : Nat) (a_2 : Nat) (a_3 : Nat) (a_4 : Nat) (a_5 : Nat) (i_2 : Int32) (i_3 : Int32) (i_4 : Int32) (i_5 : Int32) (i_6 : Int32) (j_0 : Int64) (i_7 : Int32) (i_8 : Int32) (i_9 : Int32) (i_10 : Int32) (a_6 : Nat) (a_7 : Nat) (a_8 : Nat) (a_9 : Nat) (a_10 : Nat) (a_11 : Nat) (a_12 : Nat) (a_13 : Nat) (a_14 : Nat) (a_15 : Nat) (a_16 : Nat) (a_17 : Nat) (a_18 : Nat) (i_11 : Int32) (i_12 : Int32) (i_13 : Int32) (i_14 : Int32) (i_15 : Int32) (i_16 : Int32) (a_19 : Nat) (i_17 : Int32) (a_20 : Nat) (i_18 : Int32) (i_19 : Int32) (i_20 : Int32) (i_21 : Int32) (i_22 : Int32) (i_23 : Int32) (i_24 : Int32) (i_25 : Int32) (i_26 : Int32) (i_27 : Int32) (i_28 : Int32) (i_29 : Int32) (i_30 : Int32) (i_31 : Int32) (i_32 : Int32) (i_33 : Int32) (i_34 : Int32) (i_35 : Int32) (i_36 : Int32) (i_37 : Int32) (i_38 : Int32) (i_39 : Int32) (i_40 : Int32) (i_41 : Int32) (i_42 : Int32) (i_43 : Int32) (i_44 : Int32) (i_45 : Int32) (i_46 : Int32) (i_47 : Int32) (h0 : mm_rg i_0 0 99) (h1 : mm_rg i_18 0 10) (h2 : mm_rg i_19 0 99) (h3 : mm_rg i_20 0 9) (h4 : mm_rg i_21 0 3) (h5 : mm_rg i_22 0 6) (h6 : mm_rg i_23 0 30) (h7 : mm_rg i_24 0 10) (h8 : mm_rg i_25 0 99) (h9 : mm_rg i_26 0 9) (h10 : mm_rg i_27 0 3) (h11 : mm_rg i_28 0 6) (h12 : mm_rg i_29 0 30) (h13 : mm_rg i_30 0 10) (h14 : mm_rg i_31 0 99) (h15 : mm_rg i_32 0 9) (h16 : mm_rg i_33 0 3) (h17 : mm_rg i_34 0 6) (h18 : mm_rg i_35 0 30) (h19 : mm_rg i_36 0 10) (h20 : mm_rg i_37 0 99) (h21 : mm_rg i_38 0 9) (h22 : mm_rg i_39 0 3) (h23 : mm_rg i_40 0 6) (h24 : mm_rg i_41 0 30) (h25 : mm_rg i_42 0 10) (h26 : mm_rg i_43 0 99) (h27 : mm_rg i_44 0 9) (h28 : mm_rg i_45 0 3) (h29 : mm_rg i_46 0 6) (h30 : mm_rg i_47 0 30)  : mm_CV l yX12_tells (mm_ws yX12_tells cX12_tells 3 (none)) ({ frames := 0, cells := 0, slots := 0, locals := 0 } : Room) G cy sz [(a_0, .inr (12, [.int i_1, .ref a_1, .ref a_2, .ref a_3, .ref a_4, .ref a_5, .int i_2, .int i_3, .int i_4, .int i_5, .int i_6, .long j_0, .int i_7, .int i_8, .int i_9, .int i_10, .ref a_6, .ref a_7, .ref a_8, .ref a_9, .ref a_10, .ref a_11, .ref a_12, .ref a_13, .ref a_14, .ref a_15, .ref a_16, .ref a_17, .ref a_18, .int i_11, .int i_12, .int i_13, .int i_14, .int i_15, .int i_16, .ref a_19, .int i_17, .ref a_20])), (a_7, .inl (cy 1, 30, .inl (mm_g [i_18, i_19, i_20, i_21, i_22, i_23, i_24, i_25, i_26, i_27, i_28, i_29, i_30, i_31, i_32, i_33, i_34, i_35, i_36, i_37, i_38, i_39, i_40, i_41, i_42, i_43, i_44, i_45, i_46, i_47])))] [.ref a_0, .int 1, .int i_0] (fun u : Unit => [(a_0, .inr (12, [.int i_1, .ref a_1, .ref a_2, .ref a_3, .ref a_4, .ref a_5, .int i_2, .int i_3, .int i_4, .int i_5, .int i_6, .long j_0, .int i_7, .int i_8, .int i_9, .int i_10, .ref a_6, .ref a_7, .ref a_8, .ref a_9, .ref a_10, .ref a_11, .ref a_12, .ref a_13, .ref a_14, .ref a_15, .ref a_16, .ref a_17, .ref a_18, .int i_11, .int i_12, .int i_13, .int i_14, .int i_15, .int i_16, .ref a_19, .int i_17, .ref a_20])), (a_7, .inl (cy 1, 30, .inl (mm_g [i_18, i_19, i_20, i_21, i_22, i_23, i_24, i_25, i_26, i_27, i_28, i_29, i_30, i_31, i_32, i_33, i_34, i_35, i_36, i_37, i_38, i_39, i_40, i_41, i_42, i_0, i_44, i_45, i_46, i_47])))]) (fun u : Unit => True) 0 0 := by
  refine mm_begin (lv := [(0, .ref a_0), (1, .int 1), (2, .int i_0)]) (by decide) (Nat.le_of_ble_eq_true rfl) rfl ?_
  intro p e s m below meth c A ls R args Q H locs hRe hQ hAe hx hb hr hlocks hml hown hnm hts hsz hA hS hP hK hD hZ hl
  have hRf : R.frames = 0 := by rw [hRe]
  have hRl : R.locals = 0 := by rw [hRe]
  have hRc : R.cells = 0 := by rw [hRe]
  have hRs : R.slots = 0 := by rw [hRe]
  refine lv_aload_n hx hb dX12_tells_0 rfl (lv_at hl 0 rfl) ?_
  refine va_get (D := G) (ci := 12) (v := .ref a_7) (C := RX12) (T := TX12) (N := 38) hx hb hts (mm_i inlX12) hown hK.1 hP 0 rfl rfl 17 (by decide) (mm_h hts mm_w149) (fun _ h9 => h9) rfl dX12_tells_1 ?_
  refine lv_bipush (v := 24) hx hb dX12_tells_4 (by decide) ?_
  refine lv_iload_n hx hb dX12_tells_6 rfl (lv_at hl 1 rfl) ?_
  refine lv_iadd hx hb dX12_tells_7 ?_
  refine lv_topi (fun v1 ev1 => ?_)
  obtain rfl : v1 = 25 := ev1.trans (by decide)
  refine lv_iload_n hx hb dX12_tells_8 rfl (lv_at hl 2 rfl) ?_
  refine va_iast hx hb hK.1 hP hD hS 1 1 rfl rfl (mm_in mm_k25 (by decide)) dX12_tells_9 ?_
  clear hP hD hS
  clear H locs
  rw [show upd (mm_g [i_18, i_19, i_20, i_21, i_22, i_23, i_24, i_25, i_26, i_27, i_28, i_29, i_30, i_31, i_32, i_33, i_34, i_35, i_36, i_37, i_38, i_39, i_40, i_41, i_42, i_43, i_44, i_45, i_46, i_47]) (25 : Int32).toNatClampNeg i_0 = (mm_g [i_18, i_19, i_20, i_21, i_22, i_23, i_24, i_25, i_26, i_27, i_28, i_29, i_30, i_31, i_32, i_33, i_34, i_35, i_36, i_37, i_38, i_39, i_40, i_41, i_42, i_0, i_44, i_45, i_46, i_47]) from mm_gs2 25 30 (by decide) rfl rfl rfl]
  intro H locs (hP : va_P G vwCl [(a_0, .inr (12, [.int i_1, .ref a_1, .ref a_2, .ref a_3, .ref a_4, .ref a_5, .int i_2, .int i_3, .int i_4, .int i_5, .int i_6, .long j_0, .int i_7, .int i_8, .int i_9, .int i_10, .ref a_6, .ref a_7, .ref a_8, .ref a_9, .ref a_10, .ref a_11, .ref a_12, .ref a_13, .ref a_14, .ref a_15, .ref a_16, .ref a_17, .ref a_18, .int i_11, .int i_12, .int i_13, .int i_14, .int i_15, .int i_16, .ref a_19, .int i_17, .ref a_20])), (a_7, .inl (cy 1, 30, .inl (mm_g [i_18, i_19, i_20, i_21, i_22, i_23, i_24, i_25, i_26, i_27, i_28, i_29, i_30, i_31, i_32, i_33, i_34, i_35, i_36, i_37, i_38, i_39, i_40, i_41, i_42, i_0, i_44, i_45, i_46, i_47])))] H) (hD : va_D A [(a_0, .inr (12, [.int i_1, .ref a_1, .ref a_2, .ref a_3, .ref a_4, .ref a_5, .int i_2, .int i_3, .int i_4, .int i_5, .int i_6, .long j_0, .int i_7, .int i_8, .int i_9, .int i_10, .ref a_6, .ref a_7, .ref a_8, .ref a_9, .ref a_10, .ref a_11, .ref a_12, .ref a_13, .ref a_14, .ref a_15, .ref a_16, .ref a_17, .ref a_18, .int i_11, .int i_12, .int i_13, .int i_14, .int i_15, .int i_16, .ref a_19, .int i_17, .ref a_20])), (a_7, .inl (cy 1, 30, .inl (mm_g [i_18, i_19, i_20, i_21, i_22, i_23, i_24, i_25, i_26, i_27, i_28, i_29, i_30, i_31, i_32, i_33, i_34, i_35, i_36, i_37, i_38, i_39, i_40, i_41, i_42, i_0, i_44, i_45, i_46, i_47])))]) hS
  subst hAe
  rw [hQ]
  exact W.vret hx hb hr (fun t ht hW => ⟨⟨(), rfl, trivial, by rw [ht]; exact hP, hK.warm hW, hD⟩, hS.F ht⟩) hS.2.2 dX12_tells_10

set_option maxHeartbeats 4000000 in
set_option maxRecDepth 100000 in
theorem M36_X12_ends (l : Launch) (G : va_G) (cy : Nat → ClassId) (sz : Nat) (a_0 : Nat) (i_0 : Int32) (a_1 : Nat) (a_2 : Nat) (a_3 : Nat) (a_4 : Nat) (a_5 : Nat) (i_1 : Int32) (i_2 : Int32) (i_3 : Int32) (i_4 : Int32) (i_5 : Int32) (j_0 : Int64) (i_6 : Int32) (i_7 : Int32) (i_8 : Int32) (i_9 : Int32) (a_6 : Nat) (a_7 : Nat) (a_8 : Nat) (a_9 : Nat) (a_10 : Nat) (a_11 : Nat) (a_12 : Nat) (a_13 : Nat) (a_14 : Nat) (a_15 : Nat) (a_16 : Nat) (a_17 : Nat) (a_18 : Nat) (i_10 : Int32) (i_11 : Int32) (i_12 : Int32) (i_13 : Int32) (i_14 : Int32) (i_15 : Int32) (a_19 : Nat) (i_16 : Int32) (a_20 : Nat) (f_0 : Nat → Int32) (h0 : mm_rg i_1 0 600) (h1 : mm_rg i_2 0 600) (h2 : mm_rg i_3 0 4) (h3 : mm_rg i_4 0 600) (h4 : mm_rg i_6 0 3) (h5 : mm_ar f_0 (-128) 127) (h6 : (i_4 : Int32).toInt ≤ (i_2 : Int32).toInt) (h7 : (i_2 : Int32).toInt ≤ (i_1 : Int32).toInt) (h8 : mm_tk i_3 i_4 i_2)  : mm_CV l yX12_ends (mm_ws yX12_ends cX12_ends 1 (none)) ({ frames := 2, cells := 0, slots := 0, locals := 44 } : Room) G cy sz [(a_0, .inr (12, [.int i_0, .ref a_1, .ref a_2, .ref a_3, .ref a_4, .ref a_5, .int i_1, .int i_2, .int i_3, .int i_4, .int i_5, .long j_0, .int i_6, .int i_7, .int i_8, .int i_9, .ref a_6, .ref a_7, .ref a_8, .ref a_9, .ref a_10, .ref a_11, .ref a_12, .ref a_13, .ref a_14, .ref a_15, .ref a_16, .ref a_17, .ref a_18, .int i_10, .int i_11, .int i_12, .int i_13, .int i_14, .int i_15, .ref a_19, .int i_16, .ref a_20])), (a_5, .inl (cy 0, 600, .inl f_0))] [.ref a_0] (fun u : Int32 × Int32 × Int32 × Int32 × Int64 × Int32 × Int32 => [(a_0, .inr (12, [.int i_0, .ref a_1, .ref a_2, .ref a_3, .ref a_4, .ref a_5, .int i_1, .int u.1, .int u.2.1, .int u.2.2.1, .int u.2.2.2.1, .long u.2.2.2.2.1, .int u.2.2.2.2.2.1, .int u.2.2.2.2.2.2, .int i_8, .int i_9, .ref a_6, .ref a_7, .ref a_8, .ref a_9, .ref a_10, .ref a_11, .ref a_12, .ref a_13, .ref a_14, .ref a_15, .ref a_16, .ref a_17, .ref a_18, .int i_10, .int i_11, .int i_12, .int i_13, .int i_14, .int i_15, .ref a_19, .int i_16, .ref a_20])), (a_5, .inl (cy 0, 600, .inl f_0))]) (fun u : Int32 × Int32 × Int32 × Int32 × Int64 × Int32 × Int32 => mm_rg u.1 0 600 ∧ mm_rg u.2.1 0 4 ∧ mm_rg u.2.2.1 0 600 ∧ mm_rg u.2.2.2.2.2.1 0 3 ∧ (u.2.2.1 : Int32).toInt ≤ (u.1 : Int32).toInt ∧ (u.1 : Int32).toInt ≤ (i_1 : Int32).toInt ∧ mm_tk u.2.1 u.2.2.1 u.1 ∧ (i_4 : Int32).toInt ≤ (u.2.2.1 : Int32).toInt ∧ mm_go u.2.2.2.2.2.1 i_4 u.2.2.1) 0 0 := by
  refine mm_begin (lv := [(0, .ref a_0)]) (by decide) (Nat.le_of_ble_eq_true rfl) rfl ?_
  intro p e s m below meth c A ls R args Q H locs hRe hQ hAe hx hb hr hlocks hml hown hnm hts hsz hA hS hP hK hD hZ hl
  have hRf : R.frames = 2 := by rw [hRe]
  have hRl : R.locals = 44 := by rw [hRe]
  have hRc : R.cells = 0 := by rw [hRe]
  have hRs : R.slots = 0 := by rw [hRe]
  refine lv_aload_n hx hb dX12_ends_0 rfl (lv_at hl 0 rfl) ?_
  refine va_get (D := G) (ci := 12) (v := .int i_3) (C := RX12) (T := TX12) (N := 38) hx hb hts (mm_i inlX12) hown hK.1 hP 0 rfl rfl 8 (by decide) (mm_h hts mm_w432) (fun _ h9 => h9) rfl dX12_ends_1 ?_
  refine lv_iconst (v := 3) hx hb dX12_ends_4 (by decide) ?_
  refine lv_icmp_eq (tgt := 13) hx hb dX12_ends_5 (by decide) (fun c1 => ?_) (fun c1 => ?_)
  · have q2 := mm_eqI (lo := 3) (hi := 3) c1 h2 mm_k3 (by decide)
    have w3 := mm_tk3 h8 q2 (by decide)
    have q4 := mm_ltL (h := 599) w3 h3 h1 (by decide)
    have q5 := mm_ltR (lo := 1) w3 h3 h1 (by decide)
    have q6 := mm_leR h7 q5 h0
    refine lv_aload_n hx hb dX12_ends_13 rfl (lv_at hl 0 rfl) ?_
    refine va_get (D := G) (ci := 12) (v := .int i_6) (C := RX12) (T := TX12) (N := 38) hx hb hts (mm_i inlX12) hown hK.1 hP 0 rfl rfl 12 (by decide) (mm_h hts mm_w436) (fun _ h9 => h9) rfl dX12_ends_14 ?_
    refine lv_if_ne (tgt := 24) hx hb dX12_ends_17 (by decide) (fun c7 => ?_) (fun c7 => ?_)
    · have q8 := mm_neL (lo := 1) (mm_ne c7) h4 mm_k0 (by decide) (by decide)
      have w9 : (i_4 : Int32).toInt ≤ (i_4 : Int32).toInt := (Int.le_refl _)
      have w10 : mm_go i_6 i_4 i_4 := (mm_go_n q8 (by decide))
      subst hAe
      rw [hQ]
      exact W.vret hx hb hr (fun t ht hW => ⟨⟨(i_2, i_3, i_4, i_5, j_0, i_6, i_7), rfl, ⟨(mm_wk q5 (by decide)), (mm_wk q2 (by decide)), (mm_wk q4 (by decide)), (mm_wk q8 (by decide)), h6, h7, h8, w9, w10⟩, by rw [ht]; exact hP, hK.warm hW, hD⟩, hS.F ht⟩) hS.2.2 dX12_ends_24
    · have q11 := mm_eqI (lo := 0) (hi := 0) c7 h4 mm_k0 (by decide)
      refine lv_aload_n hx hb dX12_ends_20 rfl (lv_at hl 0 rfl) ?_
      refine mm_finv (va_runV (As := []) (rest := []) ⟨hx, hb, hml, hown, hts⟩ (M22_X12_next l G cy H.size a_0 i_0 a_1 a_2 a_3 a_4 a_5 i_1 i_2 i_3 i_4 i_5 j_0 i_6 i_7 i_8 i_9 a_6 a_7 a_8 a_9 a_10 a_11 a_12 a_13 a_14 a_15 a_16 a_17 a_18 i_10 i_11 i_12 i_13 i_14 i_15 a_19 i_16 a_20 f_0 (mm_wk q6 (by decide)) (mm_wk q5 (by decide)) (mm_wk q2 (by decide)) (mm_wk q4 (by decide)) h5 h7) (cwV 0 hts (mm_gV mm_w451 mm_w452 mm_w453 mm_w5 mm_w454) rfl rfl rfl hd_X12_next ⟨by rw [hRf]; exact Nat.le_of_ble_eq_true rfl, by rw [hRl]; exact Nat.le_of_ble_eq_true rfl⟩) (mm_preV hK hZ hS hA hP hD [0, 1] rfl rfl 0 rfl rfl rfl) rfl rfl hl.1 rfl (lv_room (Nat.le_of_ble_eq_true rfl)) dX12_ends_21 ⟨by rw [hRc]; exact Nat.le_of_ble_eq_true rfl, by rw [hRs]; exact Nat.le_of_ble_eq_true rfl⟩) hP hD hS hA (fun u : Int32 × Int32 × Int32 × Int32 × Int64 => [(a_0, .inr (12, [.int i_0, .ref a_1, .ref a_2, .ref a_3, .ref a_4, .ref a_5, .int i_1, .int u.1, .int u.2.1, .int u.2.2.1, .int u.2.2.2.1, .long u.2.2.2.2, .int i_6, .int i_7, .int i_8, .int i_9, .ref a_6, .ref a_7, .ref a_8, .ref a_9, .ref a_10, .ref a_11, .ref a_12, .ref a_13, .ref a_14, .ref a_15, .ref a_16, .ref a_17, .ref a_18, .int i_10, .int i_11, .int i_12, .int i_13, .int i_14, .int i_15, .ref a_19, .int i_16, .ref a_20])), (a_5, .inl (cy 0, 600, .inl f_0))]) [0, 1] [] (n := 2) (fun _ => rfl) (by decide +kernel) (by decide +kernel) rfl (fun _ => rfl) (wr := []) rfl (fun _ => rfl) (fun _ => rfl) ?_
      clear hP hD hS
      clear H locs
      intro u
      obtain ⟨n12, n13, n14, n15, n16⟩ := u
      intro H locs hw (hP : va_P G vwCl [(a_0, .inr (12, [.int i_0, .ref a_1, .ref a_2, .ref a_3, .ref a_4, .ref a_5, .int i_1, .int n12, .int n13, .int n14, .int n15, .long n16, .int i_6, .int i_7, .int i_8, .int i_9, .ref a_6, .ref a_7, .ref a_8, .ref a_9, .ref a_10, .ref a_11, .ref a_12, .ref a_13, .ref a_14, .ref a_15, .ref a_16, .ref a_17, .ref a_18, .int i_10, .int i_11, .int i_12, .int i_13, .int i_14, .int i_15, .ref a_19, .int i_16, .ref a_20])), (a_5, .inl (cy 0, 600, .inl f_0))] H) (hD : va_D A [(a_0, .inr (12, [.int i_0, .ref a_1, .ref a_2, .ref a_3, .ref a_4, .ref a_5, .int i_1, .int n12, .int n13, .int n14, .int n15, .long n16, .int i_6, .int i_7, .int i_8, .int i_9, .ref a_6, .ref a_7, .ref a_8, .ref a_9, .ref a_10, .ref a_11, .ref a_12, .ref a_13, .ref a_14, .ref a_15, .ref a_16, .ref a_17, .ref a_18, .int i_10, .int i_11, .int i_12, .int i_13, .int i_14, .int i_15, .ref a_19, .int i_16, .ref a_20])), (a_5, .inl (cy 0, 600, .inl f_0))]) hS
      obtain ⟨w17, w18, w19, w20, w21, w22, w23⟩ := hw
      replace w20 : (n14 : Int32).toInt ≤ (n12 : Int32).toInt := w20
      replace w21 : (n12 : Int32).toInt ≤ (i_1 : Int32).toInt := w21
      replace w22 : mm_tk n13 n14 n12 := w22
      replace w23 : (i_2 : Int32).toInt ≤ (n14 : Int32).toInt := w23
      have q24 := mm_leR w23 q5 w19
      have q25 := mm_leR w20 q24 w17
      have w26 : (i_4 : Int32).toInt ≤ (n14 : Int32).toInt := (by have := w3; have := w23; omega)
      have w27 : mm_go i_6 i_4 n14 := (fun _ => (by have := w3; have := w23; omega))
      subst hAe
      rw [hQ]
      exact W.vret hx hb hr (fun t ht hW => ⟨⟨(n12, n13, n14, n15, n16, i_6, i_7), rfl, ⟨(mm_wk q25 (by decide)), w18, (mm_wk q24 (by decide)), (mm_wk q11 (by decide)), w20, w21, w22, w26, w27⟩, by rw [ht]; exact hP, hK.warm hW, hD⟩, hS.F ht⟩) hS.2.2 dX12_ends_24
  · refine lv_aload_n hx hb dX12_ends_8 rfl (lv_at hl 0 rfl) ?_
    refine lv_iconst (v := 1) hx hb dX12_ends_9 (by decide) ?_
    refine mm_finv (va_runV (As := [.int 1]) (rest := []) ⟨hx, hb, hml, hown, hts⟩ (M27_X12_fails l G cy H.size a_0 i_0 a_1 a_2 a_3 a_4 a_5 i_1 i_2 i_3 i_4 i_5 j_0 i_6 i_7 i_8 i_9 a_6 a_7 a_8 a_9 a_10 a_11 a_12 a_13 a_14 a_15 a_16 a_17 a_18 i_10 i_11 i_12 i_13 i_14 i_15 a_19 i_16 a_20 h3 h4) (cwV 1 hts (mm_gV mm_w483 mm_w484 mm_w485 mm_w5 mm_w486) rfl rfl rfl hd_X12_fails ⟨by rw [hRf]; exact Nat.le_of_ble_eq_true rfl, by rw [hRl]; exact Nat.le_of_ble_eq_true rfl⟩) (mm_preV hK hZ hS hA hP hD [0] rfl rfl 0 rfl rfl rfl) rfl rfl hl.1 rfl (lv_room (Nat.le_of_ble_eq_true rfl)) dX12_ends_10 ⟨by rw [hRc]; exact Nat.le_of_ble_eq_true rfl, by rw [hRs]; exact Nat.le_of_ble_eq_true rfl⟩) hP hD hS hA (fun u : Int32 × Int32 => [(a_0, .inr (12, [.int i_0, .ref a_1, .ref a_2, .ref a_3, .ref a_4, .ref a_5, .int i_1, .int i_2, .int i_3, .int i_4, .int i_5, .long j_0, .int u.1, .int u.2, .int i_8, .int i_9, .ref a_6, .ref a_7, .ref a_8, .ref a_9, .ref a_10, .ref a_11, .ref a_12, .ref a_13, .ref a_14, .ref a_15, .ref a_16, .ref a_17, .ref a_18, .int i_10, .int i_11, .int i_12, .int i_13, .int i_14, .int i_15, .ref a_19, .int i_16, .ref a_20])), (a_5, .inl (cy 0, 600, .inl f_0))]) [0] [1] (n := 2) (fun _ => rfl) (by decide +kernel) (by decide +kernel) rfl (fun _ => rfl) (wr := [(a_5, .inl (cy 0, 600, .inl f_0))]) rfl (fun _ => rfl) (fun _ => rfl) ?_
    clear hP hD hS
    clear H locs
    intro u
    obtain ⟨n28, n29⟩ := u
    intro H locs hw (hP : va_P G vwCl [(a_0, .inr (12, [.int i_0, .ref a_1, .ref a_2, .ref a_3, .ref a_4, .ref a_5, .int i_1, .int i_2, .int i_3, .int i_4, .int i_5, .long j_0, .int n28, .int n29, .int i_8, .int i_9, .ref a_6, .ref a_7, .ref a_8, .ref a_9, .ref a_10, .ref a_11, .ref a_12, .ref a_13, .ref a_14, .ref a_15, .ref a_16, .ref a_17, .ref a_18, .int i_10, .int i_11, .int i_12, .int i_13, .int i_14, .int i_15, .ref a_19, .int i_16, .ref a_20])), (a_5, .inl (cy 0, 600, .inl f_0))] H) (hD : va_D A [(a_0, .inr (12, [.int i_0, .ref a_1, .ref a_2, .ref a_3, .ref a_4, .ref a_5, .int i_1, .int i_2, .int i_3, .int i_4, .int i_5, .long j_0, .int n28, .int n29, .int i_8, .int i_9, .ref a_6, .ref a_7, .ref a_8, .ref a_9, .ref a_10, .ref a_11, .ref a_12, .ref a_13, .ref a_14, .ref a_15, .ref a_16, .ref a_17, .ref a_18, .int i_10, .int i_11, .int i_12, .int i_13, .int i_14, .int i_15, .ref a_19, .int i_16, .ref a_20])), (a_5, .inl (cy 0, 600, .inl f_0))]) hS
    have w30 := hw
    refine lv_aload_n hx hb dX12_ends_13 rfl (lv_at hl 0 rfl) ?_
    refine va_get (D := G) (ci := 12) (v := .int n28) (C := RX12) (T := TX12) (N := 38) hx hb hts (mm_i inlX12) hown hK.1 hP 0 rfl rfl 12 (by decide) (mm_h hts mm_w436) (fun _ h9 => h9) rfl dX12_ends_14 ?_
    refine lv_if_ne (tgt := 24) hx hb dX12_ends_17 (by decide) (fun c31 => ?_) (fun c31 => ?_)
    · have w32 : (i_4 : Int32).toInt ≤ (i_4 : Int32).toInt := (Int.le_refl _)
      have w33 : mm_go n28 i_4 i_4 := (mm_go_n w30 (by decide))
      subst hAe
      rw [hQ]
      exact W.vret hx hb hr (fun t ht hW => ⟨⟨(i_2, i_3, i_4, i_5, j_0, n28, n29), rfl, ⟨h1, h2, h3, (mm_wk w30 (by decide)), h6, h7, h8, w32, w33⟩, by rw [ht]; exact hP, hK.warm hW, hD⟩, hS.F ht⟩) hS.2.2 dX12_ends_24
    · exact mm_eqN c31.symm mm_k0 w30 (by decide)

set_option maxHeartbeats 4000000 in
set_option maxRecDepth 100000 in
theorem M37_X12_hasRead (l : Launch) (G : va_G) (cy : Nat → ClassId) (sz : Nat) (a_0 : Nat) (i_0 : Int32) (a_1 : Nat) (a_2 : Nat) (a_3 : Nat) (a_4 : Nat) (a_5 : Nat) (i_1 : Int32) (i_2 : Int32) (i_3 : Int32) (i_4 : Int32) (i_5 : Int32) (j_0 : Int64) (i_6 : Int32) (i_7 : Int32) (i_8 : Int32) (i_9 : Int32) (a_6 : Nat) (a_7 : Nat) (a_8 : Nat) (a_9 : Nat) (a_10 : Nat) (a_11 : Nat) (a_12 : Nat) (a_13 : Nat) (a_14 : Nat) (a_15 : Nat) (a_16 : Nat) (a_17 : Nat) (a_18 : Nat) (i_10 : Int32) (i_11 : Int32) (i_12 : Int32) (i_13 : Int32) (i_14 : Int32) (i_15 : Int32) (a_19 : Nat) (i_16 : Int32) (a_20 : Nat) (i_17 : Int32) (i_18 : Int32) (i_19 : Int32) (i_20 : Int32) (i_21 : Int32) (i_22 : Int32) (i_23 : Int32) (i_24 : Int32) (i_25 : Int32) (i_26 : Int32) (i_27 : Int32) (i_28 : Int32) (i_29 : Int32) (i_30 : Int32) (i_31 : Int32) (i_32 : Int32) (i_33 : Int32) (i_34 : Int32) (i_35 : Int32) (i_36 : Int32) (i_37 : Int32) (i_38 : Int32) (i_39 : Int32) (i_40 : Int32) (i_41 : Int32) (i_42 : Int32) (i_43 : Int32) (i_44 : Int32) (i_45 : Int32) (i_46 : Int32) (h0 : mm_rg i_17 0 10) (h1 : mm_rg i_18 0 99) (h2 : mm_rg i_19 0 9) (h3 : mm_rg i_20 0 3) (h4 : mm_rg i_21 0 6) (h5 : mm_rg i_22 0 30) (h6 : mm_rg i_23 0 10) (h7 : mm_rg i_24 0 99) (h8 : mm_rg i_25 0 9) (h9 : mm_rg i_26 0 3) (h10 : mm_rg i_27 0 6) (h11 : mm_rg i_28 0 30) (h12 : mm_rg i_29 0 10) (h13 : mm_rg i_30 0 99) (h14 : mm_rg i_31 0 9) (h15 : mm_rg i_32 0 3) (h16 : mm_rg i_33 0 6) (h17 : mm_rg i_34 0 30) (h18 : mm_rg i_35 0 10) (h19 : mm_rg i_36 0 99) (h20 : mm_rg i_37 0 9) (h21 : mm_rg i_38 0 3) (h22 : mm_rg i_39 0 6) (h23 : mm_rg i_40 0 30) (h24 : mm_rg i_41 0 10) (h25 : mm_rg i_42 0 99) (h26 : mm_rg i_43 0 9) (h27 : mm_rg i_44 0 3) (h28 : mm_rg i_45 0 6) (h29 : mm_rg i_46 0 30)  : mm_CI l yX12_hasRead (mm_ws yX12_hasRead cX12_hasRead 2 (some .int)) ({ frames := 0, cells := 0, slots := 0, locals := 0 } : Room) G cy sz [(a_0, .inr (12, [.int i_0, .ref a_1, .ref a_2, .ref a_3, .ref a_4, .ref a_5, .int i_1, .int i_2, .int i_3, .int i_4, .int i_5, .long j_0, .int i_6, .int i_7, .int i_8, .int i_9, .ref a_6, .ref a_7, .ref a_8, .ref a_9, .ref a_10, .ref a_11, .ref a_12, .ref a_13, .ref a_14, .ref a_15, .ref a_16, .ref a_17, .ref a_18, .int i_10, .int i_11, .int i_12, .int i_13, .int i_14, .int i_15, .ref a_19, .int i_16, .ref a_20])), (a_7, .inl (cy 1, 30, .inl (mm_g [i_17, i_18, i_19, i_20, i_21, i_22, i_23, i_24, i_25, i_26, i_27, i_28, i_29, i_30, i_31, i_32, i_33, i_34, i_35, i_36, i_37, i_38, i_39, i_40, i_41, i_42, i_43, i_44, i_45, i_46])))] [.ref a_0, .int 2] (fun u : Unit => [(a_0, .inr (12, [.int i_0, .ref a_1, .ref a_2, .ref a_3, .ref a_4, .ref a_5, .int i_1, .int i_2, .int i_3, .int i_4, .int i_5, .long j_0, .int i_6, .int i_7, .int i_8, .int i_9, .ref a_6, .ref a_7, .ref a_8, .ref a_9, .ref a_10, .ref a_11, .ref a_12, .ref a_13, .ref a_14, .ref a_15, .ref a_16, .ref a_17, .ref a_18, .int i_10, .int i_11, .int i_12, .int i_13, .int i_14, .int i_15, .ref a_19, .int i_16, .ref a_20])), (a_7, .inl (cy 1, 30, .inl (mm_g [i_17, i_18, i_19, i_20, i_21, i_22, i_23, i_24, i_25, i_26, i_27, i_28, i_29, i_30, i_31, i_32, i_33, i_34, i_35, i_36, i_37, i_38, i_39, i_40, i_41, i_42, i_43, i_44, i_45, i_46])))]) (fun (r : Int32) (u : Unit) => i_43 = r) 0 0 := by
  refine mm_begin (lv := [(0, .ref a_0), (1, .int 2)]) (by decide) (Nat.le_of_ble_eq_true rfl) rfl ?_
  intro p e s m below meth c A ls R args Q H locs hRe hQ hAe hx hb hr hlocks hml hown hnm hts hsz hA hS hP hK hD hZ hl
  have hRf : R.frames = 0 := by rw [hRe]
  have hRl : R.locals = 0 := by rw [hRe]
  have hRc : R.cells = 0 := by rw [hRe]
  have hRs : R.slots = 0 := by rw [hRe]
  refine lv_aload_n hx hb dX12_hasRead_0 rfl (lv_at hl 0 rfl) ?_
  refine va_get (D := G) (ci := 12) (v := .ref a_7) (C := RX12) (T := TX12) (N := 38) hx hb hts (mm_i inlX12) hown hK.1 hP 0 rfl rfl 17 (by decide) (mm_h hts mm_w149) (fun _ h9 => h9) rfl dX12_hasRead_1 ?_
  refine lv_bipush (v := 24) hx hb dX12_hasRead_4 (by decide) ?_
  refine lv_iload_n hx hb dX12_hasRead_6 rfl (lv_at hl 1 rfl) ?_
  refine lv_iadd hx hb dX12_hasRead_7 ?_
  refine lv_topi (fun v1 ev1 => ?_)
  obtain rfl : v1 = 26 := ev1.trans (by decide)
  refine va_iald hx hb hK.1 hP 1 1 rfl rfl (mm_in mm_k26 (by decide)) dX12_hasRead_8 ?_
  rw [show (mm_g [i_17, i_18, i_19, i_20, i_21, i_22, i_23, i_24, i_25, i_26, i_27, i_28, i_29, i_30, i_31, i_32, i_33, i_34, i_35, i_36, i_37, i_38, i_39, i_40, i_41, i_42, i_43, i_44, i_45, i_46]) (26 : Int32).toNatClampNeg = i_43 from mm_ge 26 (by decide) rfl]
  subst hAe
  rw [hQ]
  exact W.iret (v := i_43) hx hb hr (fun t ht hW => ⟨⟨i_43, (), rfl, rfl, by rw [ht]; exact hP, hK.warm hW, hD⟩, hS.F ht⟩) hS.2.2 dX12_hasRead_9

set_option maxHeartbeats 4000000 in
set_option maxRecDepth 100000 in
theorem M38_X12_isRoom (l : Launch) (G : va_G) (cy : Nat → ClassId) (sz : Nat) (a_0 : Nat) (i_0 : Int32) (h0 : mm_rg i_0 0 9)  : mm_CI l yX12_isRoom (mm_ws yX12_isRoom cX12_isRoom 4 (some .boolean)) ({ frames := 0, cells := 0, slots := 0, locals := 0 } : Room) G cy sz [] [.ref a_0, .int 0, .int i_0, .int 9] (fun u : Unit => []) (fun (r : Int32) (u : Unit) => 0 = r) 0 0 := by
  refine mm_begin (lv := [(0, .ref a_0), (1, .int 0), (2, .int i_0), (3, .int 9)]) (by decide) (Nat.le_of_ble_eq_true rfl) rfl ?_
  intro p e s m below meth c A ls R args Q H locs hRe hQ hAe hx hb hr hlocks hml hown hnm hts hsz hA hS hP hK hD hZ hl
  have hRf : R.frames = 0 := by rw [hRe]
  have hRl : R.locals = 0 := by rw [hRe]
  have hRc : R.cells = 0 := by rw [hRe]
  have hRs : R.slots = 0 := by rw [hRe]
  refine lv_iload_n hx hb dX12_isRoom_0 rfl (lv_at hl 1 rfl) ?_
  refine lv_if_eq (tgt := 14) hx hb dX12_isRoom_1 (by decide) (fun c1 => ?_) (fun c1 => ?_)
  · refine lv_iload_n hx hb dX12_isRoom_14 rfl (lv_at hl 1 rfl) ?_
    refine lv_if_eq (tgt := 29) hx hb dX12_isRoom_15 (by decide) (fun c2 => ?_) (fun c2 => ?_)
    · refine lv_iload_n hx hb dX12_isRoom_29 rfl (lv_at hl 1 rfl) ?_
      refine lv_if_eq (tgt := 44) hx hb dX12_isRoom_30 (by decide) (fun c3 => ?_) (fun c3 => ?_)
      · refine lv_iconst (v := 0) hx hb dX12_isRoom_44 (by decide) ?_
        subst hAe
        rw [hQ]
        exact W.zret (v := 0) hx hb hr rfl (fun t ht hW => ⟨⟨0, (), rfl, rfl, by rw [ht]; exact hP, hK.warm hW, hD⟩, hS.F ht⟩) hS.2.2 dX12_isRoom_45
      · exact absurd rfl (mm_ne c3)
    · exact absurd rfl (mm_ne c2)
  · exact absurd rfl (mm_ne c1)

set_option maxHeartbeats 4000000 in
set_option maxRecDepth 100000 in
theorem M39_X12_hasRead (l : Launch) (G : va_G) (cy : Nat → ClassId) (sz : Nat) (a_0 : Nat) (i_0 : Int32) (a_1 : Nat) (a_2 : Nat) (a_3 : Nat) (a_4 : Nat) (a_5 : Nat) (i_1 : Int32) (i_2 : Int32) (i_3 : Int32) (i_4 : Int32) (i_5 : Int32) (j_0 : Int64) (i_6 : Int32) (i_7 : Int32) (i_8 : Int32) (i_9 : Int32) (a_6 : Nat) (a_7 : Nat) (a_8 : Nat) (a_9 : Nat) (a_10 : Nat) (a_11 : Nat) (a_12 : Nat) (a_13 : Nat) (a_14 : Nat) (a_15 : Nat) (a_16 : Nat) (a_17 : Nat) (a_18 : Nat) (i_10 : Int32) (i_11 : Int32) (i_12 : Int32) (i_13 : Int32) (i_14 : Int32) (i_15 : Int32) (a_19 : Nat) (i_16 : Int32) (a_20 : Nat) (i_17 : Int32) (i_18 : Int32) (i_19 : Int32) (i_20 : Int32) (i_21 : Int32) (i_22 : Int32) (i_23 : Int32) (i_24 : Int32) (i_25 : Int32) (i_26 : Int32) (i_27 : Int32) (i_28 : Int32) (i_29 : Int32) (i_30 : Int32) (i_31 : Int32) (i_32 : Int32) (i_33 : Int32) (i_34 : Int32) (i_35 : Int32) (i_36 : Int32) (i_37 : Int32) (i_38 : Int32) (i_39 : Int32) (i_40 : Int32) (i_41 : Int32) (i_42 : Int32) (i_43 : Int32) (i_44 : Int32) (i_45 : Int32) (i_46 : Int32) (h0 : mm_rg i_17 0 10) (h1 : mm_rg i_18 0 99) (h2 : mm_rg i_19 0 9) (h3 : mm_rg i_20 0 3) (h4 : mm_rg i_21 0 6) (h5 : mm_rg i_22 0 30) (h6 : mm_rg i_23 0 10) (h7 : mm_rg i_24 0 99) (h8 : mm_rg i_25 0 9) (h9 : mm_rg i_26 0 3) (h10 : mm_rg i_27 0 6) (h11 : mm_rg i_28 0 30) (h12 : mm_rg i_29 0 10) (h13 : mm_rg i_30 0 99) (h14 : mm_rg i_31 0 9) (h15 : mm_rg i_32 0 3) (h16 : mm_rg i_33 0 6) (h17 : mm_rg i_34 0 30) (h18 : mm_rg i_35 0 10) (h19 : mm_rg i_36 0 99) (h20 : mm_rg i_37 0 9) (h21 : mm_rg i_38 0 3) (h22 : mm_rg i_39 0 6) (h23 : mm_rg i_40 0 30) (h24 : mm_rg i_41 0 10) (h25 : mm_rg i_42 0 99) (h26 : mm_rg i_43 0 9) (h27 : mm_rg i_44 0 3) (h28 : mm_rg i_45 0 6) (h29 : mm_rg i_46 0 30)  : mm_CI l yX12_hasRead (mm_ws yX12_hasRead cX12_hasRead 2 (some .int)) ({ frames := 0, cells := 0, slots := 0, locals := 0 } : Room) G cy sz [(a_0, .inr (12, [.int i_0, .ref a_1, .ref a_2, .ref a_3, .ref a_4, .ref a_5, .int i_1, .int i_2, .int i_3, .int i_4, .int i_5, .long j_0, .int i_6, .int i_7, .int i_8, .int i_9, .ref a_6, .ref a_7, .ref a_8, .ref a_9, .ref a_10, .ref a_11, .ref a_12, .ref a_13, .ref a_14, .ref a_15, .ref a_16, .ref a_17, .ref a_18, .int i_10, .int i_11, .int i_12, .int i_13, .int i_14, .int i_15, .ref a_19, .int i_16, .ref a_20])), (a_7, .inl (cy 1, 30, .inl (mm_g [i_17, i_18, i_19, i_20, i_21, i_22, i_23, i_24, i_25, i_26, i_27, i_28, i_29, i_30, i_31, i_32, i_33, i_34, i_35, i_36, i_37, i_38, i_39, i_40, i_41, i_42, i_43, i_44, i_45, i_46])))] [.ref a_0, .int 3] (fun u : Unit => [(a_0, .inr (12, [.int i_0, .ref a_1, .ref a_2, .ref a_3, .ref a_4, .ref a_5, .int i_1, .int i_2, .int i_3, .int i_4, .int i_5, .long j_0, .int i_6, .int i_7, .int i_8, .int i_9, .ref a_6, .ref a_7, .ref a_8, .ref a_9, .ref a_10, .ref a_11, .ref a_12, .ref a_13, .ref a_14, .ref a_15, .ref a_16, .ref a_17, .ref a_18, .int i_10, .int i_11, .int i_12, .int i_13, .int i_14, .int i_15, .ref a_19, .int i_16, .ref a_20])), (a_7, .inl (cy 1, 30, .inl (mm_g [i_17, i_18, i_19, i_20, i_21, i_22, i_23, i_24, i_25, i_26, i_27, i_28, i_29, i_30, i_31, i_32, i_33, i_34, i_35, i_36, i_37, i_38, i_39, i_40, i_41, i_42, i_43, i_44, i_45, i_46])))]) (fun (r : Int32) (u : Unit) => i_44 = r) 0 0 := by
  refine mm_begin (lv := [(0, .ref a_0), (1, .int 3)]) (by decide) (Nat.le_of_ble_eq_true rfl) rfl ?_
  intro p e s m below meth c A ls R args Q H locs hRe hQ hAe hx hb hr hlocks hml hown hnm hts hsz hA hS hP hK hD hZ hl
  have hRf : R.frames = 0 := by rw [hRe]
  have hRl : R.locals = 0 := by rw [hRe]
  have hRc : R.cells = 0 := by rw [hRe]
  have hRs : R.slots = 0 := by rw [hRe]
  refine lv_aload_n hx hb dX12_hasRead_0 rfl (lv_at hl 0 rfl) ?_
  refine va_get (D := G) (ci := 12) (v := .ref a_7) (C := RX12) (T := TX12) (N := 38) hx hb hts (mm_i inlX12) hown hK.1 hP 0 rfl rfl 17 (by decide) (mm_h hts mm_w149) (fun _ h9 => h9) rfl dX12_hasRead_1 ?_
  refine lv_bipush (v := 24) hx hb dX12_hasRead_4 (by decide) ?_
  refine lv_iload_n hx hb dX12_hasRead_6 rfl (lv_at hl 1 rfl) ?_
  refine lv_iadd hx hb dX12_hasRead_7 ?_
  refine lv_topi (fun v1 ev1 => ?_)
  obtain rfl : v1 = 27 := ev1.trans (by decide)
  refine va_iald hx hb hK.1 hP 1 1 rfl rfl (mm_in mm_k27 (by decide)) dX12_hasRead_8 ?_
  rw [show (mm_g [i_17, i_18, i_19, i_20, i_21, i_22, i_23, i_24, i_25, i_26, i_27, i_28, i_29, i_30, i_31, i_32, i_33, i_34, i_35, i_36, i_37, i_38, i_39, i_40, i_41, i_42, i_43, i_44, i_45, i_46]) (27 : Int32).toNatClampNeg = i_44 from mm_ge 27 (by decide) rfl]
  subst hAe
  rw [hQ]
  exact W.iret (v := i_44) hx hb hr (fun t ht hW => ⟨⟨i_44, (), rfl, rfl, by rw [ht]; exact hP, hK.warm hW, hD⟩, hS.F ht⟩) hS.2.2 dX12_hasRead_9

set_option maxHeartbeats 4000000 in
set_option maxRecDepth 100000 in
theorem M40_X12_isRoom (l : Launch) (G : va_G) (cy : Nat → ClassId) (sz : Nat) (a_0 : Nat) (i_0 : Int32) (h0 : mm_rg i_0 0 3)  : mm_CI l yX12_isRoom (mm_ws yX12_isRoom cX12_isRoom 4 (some .boolean)) ({ frames := 0, cells := 0, slots := 0, locals := 0 } : Room) G cy sz [] [.ref a_0, .int 0, .int i_0, .int 3] (fun u : Unit => []) (fun (r : Int32) (u : Unit) => 0 = r) 0 0 := by
  refine mm_begin (lv := [(0, .ref a_0), (1, .int 0), (2, .int i_0), (3, .int 3)]) (by decide) (Nat.le_of_ble_eq_true rfl) rfl ?_
  intro p e s m below meth c A ls R args Q H locs hRe hQ hAe hx hb hr hlocks hml hown hnm hts hsz hA hS hP hK hD hZ hl
  have hRf : R.frames = 0 := by rw [hRe]
  have hRl : R.locals = 0 := by rw [hRe]
  have hRc : R.cells = 0 := by rw [hRe]
  have hRs : R.slots = 0 := by rw [hRe]
  refine lv_iload_n hx hb dX12_isRoom_0 rfl (lv_at hl 1 rfl) ?_
  refine lv_if_eq (tgt := 14) hx hb dX12_isRoom_1 (by decide) (fun c1 => ?_) (fun c1 => ?_)
  · refine lv_iload_n hx hb dX12_isRoom_14 rfl (lv_at hl 1 rfl) ?_
    refine lv_if_eq (tgt := 29) hx hb dX12_isRoom_15 (by decide) (fun c2 => ?_) (fun c2 => ?_)
    · refine lv_iload_n hx hb dX12_isRoom_29 rfl (lv_at hl 1 rfl) ?_
      refine lv_if_eq (tgt := 44) hx hb dX12_isRoom_30 (by decide) (fun c3 => ?_) (fun c3 => ?_)
      · refine lv_iconst (v := 0) hx hb dX12_isRoom_44 (by decide) ?_
        subst hAe
        rw [hQ]
        exact W.zret (v := 0) hx hb hr rfl (fun t ht hW => ⟨⟨0, (), rfl, rfl, by rw [ht]; exact hP, hK.warm hW, hD⟩, hS.F ht⟩) hS.2.2 dX12_isRoom_45
      · exact absurd rfl (mm_ne c3)
    · exact absurd rfl (mm_ne c2)
  · exact absurd rfl (mm_ne c1)

set_option maxHeartbeats 4000000 in
set_option maxRecDepth 100000 in
theorem M41_X12_rulesRead (l : Launch) (G : va_G) (cy : Nat → ClassId) (sz : Nat) (a_0 : Nat) (i_0 : Int32) (a_1 : Nat) (a_2 : Nat) (a_3 : Nat) (a_4 : Nat) (a_5 : Nat) (i_1 : Int32) (i_2 : Int32) (i_3 : Int32) (i_4 : Int32) (i_5 : Int32) (j_0 : Int64) (i_6 : Int32) (i_7 : Int32) (i_8 : Int32) (i_9 : Int32) (a_6 : Nat) (a_7 : Nat) (a_8 : Nat) (a_9 : Nat) (a_10 : Nat) (a_11 : Nat) (a_12 : Nat) (a_13 : Nat) (a_14 : Nat) (a_15 : Nat) (a_16 : Nat) (a_17 : Nat) (a_18 : Nat) (i_10 : Int32) (i_11 : Int32) (i_12 : Int32) (i_13 : Int32) (i_14 : Int32) (i_15 : Int32) (a_19 : Nat) (i_16 : Int32) (a_20 : Nat) (i_17 : Int32) (i_18 : Int32) (i_19 : Int32) (i_20 : Int32) (i_21 : Int32) (i_22 : Int32) (i_23 : Int32) (i_24 : Int32) (i_25 : Int32) (i_26 : Int32) (i_27 : Int32) (i_28 : Int32) (i_29 : Int32) (i_30 : Int32) (i_31 : Int32) (i_32 : Int32) (i_33 : Int32) (i_34 : Int32) (i_35 : Int32) (i_36 : Int32) (i_37 : Int32) (i_38 : Int32) (i_39 : Int32) (i_40 : Int32) (i_41 : Int32) (i_42 : Int32) (i_43 : Int32) (i_44 : Int32) (i_45 : Int32) (i_46 : Int32) (f_0 : Nat → Int32) (h0 : mm_rg i_17 0 10) (h1 : mm_rg i_18 0 99) (h2 : mm_rg i_19 0 9) (h3 : mm_rg i_20 0 3) (h4 : mm_rg i_21 0 6) (h5 : mm_rg i_22 0 30) (h6 : mm_rg i_23 0 10) (h7 : mm_rg i_24 0 99) (h8 : mm_rg i_25 0 9) (h9 : mm_rg i_26 0 3) (h10 : mm_rg i_27 0 6) (h11 : mm_rg i_28 0 30) (h12 : mm_rg i_29 0 10) (h13 : mm_rg i_30 0 99) (h14 : mm_rg i_31 0 9) (h15 : mm_rg i_32 0 3) (h16 : mm_rg i_33 0 6) (h17 : mm_rg i_34 0 30) (h18 : mm_rg i_35 0 10) (h19 : mm_rg i_36 0 99) (h20 : mm_rg i_37 0 9) (h21 : mm_rg i_38 0 3) (h22 : mm_rg i_39 0 6) (h23 : mm_rg i_40 0 30) (h24 : mm_rg i_41 0 10) (h25 : mm_rg i_42 0 99) (h26 : mm_rg i_43 0 9) (h27 : mm_rg i_44 0 3) (h28 : mm_rg i_45 0 6) (h29 : mm_rg i_46 0 30) (h30 : mm_ar f_0 0 7)  : mm_CI l yX12_rulesRead (mm_ws yX12_rulesRead cX12_rulesRead 1 (some .int)) ({ frames := 1, cells := 0, slots := 0, locals := 21 } : Room) G cy sz [(a_0, .inr (12, [.int i_0, .ref a_1, .ref a_2, .ref a_3, .ref a_4, .ref a_5, .int i_1, .int i_2, .int i_3, .int i_4, .int i_5, .long j_0, .int i_6, .int i_7, .int i_8, .int i_9, .ref a_6, .ref a_7, .ref a_8, .ref a_9, .ref a_10, .ref a_11, .ref a_12, .ref a_13, .ref a_14, .ref a_15, .ref a_16, .ref a_17, .ref a_18, .int i_10, .int i_11, .int i_12, .int i_13, .int i_14, .int i_15, .ref a_19, .int i_16, .ref a_20])), (a_7, .inl (cy 1, 30, .inl (mm_g [i_17, i_18, i_19, i_20, i_21, i_22, i_23, i_24, i_25, i_26, i_27, i_28, i_29, i_30, i_31, i_32, i_33, i_34, i_35, i_36, i_37, i_38, i_39, i_40, i_41, i_42, i_43, i_44, i_45, i_46]))), (a_9, .inl (cy 1, 15, .inl f_0))] [.ref a_0] (fun u : Unit => [(a_0, .inr (12, [.int i_0, .ref a_1, .ref a_2, .ref a_3, .ref a_4, .ref a_5, .int i_1, .int i_2, .int i_3, .int i_4, .int i_5, .long j_0, .int i_6, .int i_7, .int i_8, .int i_9, .ref a_6, .ref a_7, .ref a_8, .ref a_9, .ref a_10, .ref a_11, .ref a_12, .ref a_13, .ref a_14, .ref a_15, .ref a_16, .ref a_17, .ref a_18, .int i_10, .int i_11, .int i_12, .int i_13, .int i_14, .int i_15, .ref a_19, .int i_16, .ref a_20])), (a_7, .inl (cy 1, 30, .inl (mm_g [i_17, i_18, i_19, i_20, i_21, i_22, i_23, i_24, i_25, i_26, i_27, i_28, i_29, i_30, i_31, i_32, i_33, i_34, i_35, i_36, i_37, i_38, i_39, i_40, i_41, i_42, i_43, i_44, i_45, i_46]))), (a_9, .inl (cy 1, 15, .inl f_0))]) (fun (r : Int32) (u : Unit) => mm_rg r 0 7 ∧ mm_rr f_0 i_44 r) 0 0 := by
  refine mm_begin (lv := [(0, .ref a_0)]) (by decide) (Nat.le_of_ble_eq_true rfl) rfl ?_
  intro p e s m below meth c A ls R args Q H locs hRe hQ hAe hx hb hr hlocks hml hown hnm hts hsz hA hS hP hK hD hZ hl
  have hRf : R.frames = 1 := by rw [hRe]
  have hRl : R.locals = 21 := by rw [hRe]
  have hRc : R.cells = 0 := by rw [hRe]
  have hRs : R.slots = 0 := by rw [hRe]
  refine lv_aload_n hx hb dX12_rulesRead_0 rfl (lv_at hl 0 rfl) ?_
  refine lv_iconst (v := 3) hx hb dX12_rulesRead_1 (by decide) ?_
  refine mm_finir (va_runV (As := [.int 3]) (rest := []) ⟨hx, hb, hml, hown, hts⟩ (M39_X12_hasRead l G cy H.size a_0 i_0 a_1 a_2 a_3 a_4 a_5 i_1 i_2 i_3 i_4 i_5 j_0 i_6 i_7 i_8 i_9 a_6 a_7 a_8 a_9 a_10 a_11 a_12 a_13 a_14 a_15 a_16 a_17 a_18 i_10 i_11 i_12 i_13 i_14 i_15 a_19 i_16 a_20 i_17 i_18 i_19 i_20 i_21 i_22 i_23 i_24 i_25 i_26 i_27 i_28 i_29 i_30 i_31 i_32 i_33 i_34 i_35 i_36 i_37 i_38 i_39 i_40 i_41 i_42 i_43 i_44 i_45 i_46 h0 h1 h2 h3 h4 h5 h6 h7 h8 h9 h10 h11 h12 h13 h14 h15 h16 h17 h18 h19 h20 h21 h22 h23 h24 h25 h26 h27 h28 h29) (cwV 1 hts (mm_gV mm_w503 mm_w504 mm_w505 mm_w5 mm_w506) rfl rfl rfl hd_X12_hasRead ⟨by rw [hRf]; exact Nat.le_of_ble_eq_true rfl, by rw [hRl]; exact Nat.le_of_ble_eq_true rfl⟩) (mm_preV hK hZ hS hA hP hD [0, 1] rfl rfl 0 rfl rfl rfl) rfl rfl hl.1 rfl (lv_room (Nat.le_of_ble_eq_true rfl)) dX12_rulesRead_2 ⟨by rw [hRc]; exact Nat.le_of_ble_eq_true rfl, by rw [hRs]; exact Nat.le_of_ble_eq_true rfl⟩) hP hD hS hA [0, 1] rfl (fun _ => rfl) ?_
  clear hP hD hS
  clear H locs
  intro v1 _u H locs hw hP hD hS
  subst hw
  refine lv_if_ne (tgt := 12) hx hb dX12_rulesRead_5 (by decide) (fun c2 => ?_) (fun c2 => ?_)
  · have q3 := mm_neL (lo := 1) (mm_ne c2) h27 mm_k0 (by decide) (by decide)
    refine lv_aload_n hx hb dX12_rulesRead_12 rfl (lv_at hl 0 rfl) ?_
    refine va_get (D := G) (ci := 12) (v := .ref a_9) (C := RX12) (T := TX12) (N := 38) hx hb hts (mm_i inlX12) hown hK.1 hP 0 rfl rfl 19 (by decide) (mm_h hts mm_w151) (fun _ h9 => h9) rfl dX12_rulesRead_13 ?_
    refine lv_bipush (v := 12) hx hb dX12_rulesRead_16 (by decide) ?_
    refine lv_aload_n hx hb dX12_rulesRead_18 rfl (lv_at hl 0 rfl) ?_
    refine lv_iconst (v := 3) hx hb dX12_rulesRead_19 (by decide) ?_
    refine mm_finir (va_runV (As := [.int 3]) (rest := [.int 12, .ref a_9]) ⟨hx, hb, hml, hown, hts⟩ (M39_X12_hasRead l G cy H.size a_0 i_0 a_1 a_2 a_3 a_4 a_5 i_1 i_2 i_3 i_4 i_5 j_0 i_6 i_7 i_8 i_9 a_6 a_7 a_8 a_9 a_10 a_11 a_12 a_13 a_14 a_15 a_16 a_17 a_18 i_10 i_11 i_12 i_13 i_14 i_15 a_19 i_16 a_20 i_17 i_18 i_19 i_20 i_21 i_22 i_23 i_24 i_25 i_26 i_27 i_28 i_29 i_30 i_31 i_32 i_33 i_34 i_35 i_36 i_37 i_38 i_39 i_40 i_41 i_42 i_43 i_44 i_45 i_46 h0 h1 h2 h3 h4 h5 h6 h7 h8 h9 h10 h11 h12 h13 h14 h15 h16 h17 h18 h19 h20 h21 h22 h23 h24 h25 h26 (mm_wk q3 (by decide)) h28 h29) (cwV 1 hts (mm_gV mm_w503 mm_w504 mm_w505 mm_w5 mm_w506) rfl rfl rfl hd_X12_hasRead ⟨by rw [hRf]; exact Nat.le_of_ble_eq_true rfl, by rw [hRl]; exact Nat.le_of_ble_eq_true rfl⟩) (mm_preV hK hZ hS hA hP hD [0, 1] rfl rfl 0 rfl rfl rfl) rfl rfl hl.1 rfl (lv_room (Nat.le_of_ble_eq_true rfl)) dX12_rulesRead_20 ⟨by rw [hRc]; exact Nat.le_of_ble_eq_true rfl, by rw [hRs]; exact Nat.le_of_ble_eq_true rfl⟩) hP hD hS hA [0, 1] rfl (fun _ => rfl) ?_
    clear hP hD hS
    clear H locs
    intro v4 _u H locs hw hP hD hS
    subst hw
    refine lv_iadd hx hb dX12_rulesRead_23 ?_
    refine lv_topi (fun v5 ev5 => ?_)
    have rv5 : mm_rg v5 13 15 := mm_add ev5 mm_k12 q3 (by decide) (by decide)
    have tv5 := mm_addEd ev5 mm_k12 q3 (by decide) (k := 12) (by decide)
    refine lv_iconst (v := 1) hx hb dX12_rulesRead_24 (by decide) ?_
    refine lv_isub hx hb dX12_rulesRead_25 ?_
    refine lv_topi (fun v6 ev6 => ?_)
    have rv6 : mm_rg v6 12 14 := mm_sub ev6 rv5 mm_k1 (by decide) (by decide)
    have tv6 := mm_subEc ev6 rv5 mm_k1 (by decide) (k := (-1)) (by decide)
    refine va_iald hx hb hK.1 hP 2 1 rfl rfl (mm_in rv6 (by decide)) dX12_rulesRead_26 ?_
    refine lv_topi (fun v7 ev7 => ?_)
    have rv7 : mm_rg v7 0 7 := mm_eqv ev7 (h30 _)
    have w8 : mm_rr f_0 i_44 v7 := (mm_rr_l ev7 q3 (by have := tv6; have := tv5; omega) (by decide))
    subst hAe
    rw [hQ]
    exact W.iret (v := v7) hx hb hr (fun t ht hW => ⟨⟨v7, (), rfl, ⟨rv7, w8⟩, by rw [ht]; exact hP, hK.warm hW, hD⟩, hS.F ht⟩) hS.2.2 dX12_rulesRead_27
  · have q9 := mm_eqI (lo := 0) (hi := 0) c2 h27 mm_k0 (by decide)
    refine lv_iconst (v := 0) hx hb dX12_rulesRead_8 (by decide) ?_
    refine lv_goto (tgt := 27) hx hb dX12_rulesRead_9 (by decide) ?_
    have w10 : mm_rr f_0 i_44 0 := (mm_rr_0 q9 (by decide))
    subst hAe
    rw [hQ]
    exact W.iret (v := 0) hx hb hr (fun t ht hW => ⟨⟨0, (), rfl, ⟨(mm_wk mm_k0 (by decide)), w10⟩, by rw [ht]; exact hP, hK.warm hW, hD⟩, hS.F ht⟩) hS.2.2 dX12_rulesRead_27

set_option maxHeartbeats 4000000 in
set_option maxRecDepth 100000 in
theorem M42_X12_isRoom (l : Launch) (G : va_G) (cy : Nat → ClassId) (sz : Nat) (a_0 : Nat) (i_0 : Int32) (h0 : mm_rg i_0 0 7)  : mm_CI l yX12_isRoom (mm_ws yX12_isRoom cX12_isRoom 4 (some .boolean)) ({ frames := 0, cells := 0, slots := 0, locals := 0 } : Room) G cy sz [] [.ref a_0, .int 0, .int i_0, .int 7] (fun u : Unit => []) (fun (r : Int32) (u : Unit) => 0 = r) 0 0 := by
  refine mm_begin (lv := [(0, .ref a_0), (1, .int 0), (2, .int i_0), (3, .int 7)]) (by decide) (Nat.le_of_ble_eq_true rfl) rfl ?_
  intro p e s m below meth c A ls R args Q H locs hRe hQ hAe hx hb hr hlocks hml hown hnm hts hsz hA hS hP hK hD hZ hl
  have hRf : R.frames = 0 := by rw [hRe]
  have hRl : R.locals = 0 := by rw [hRe]
  have hRc : R.cells = 0 := by rw [hRe]
  have hRs : R.slots = 0 := by rw [hRe]
  refine lv_iload_n hx hb dX12_isRoom_0 rfl (lv_at hl 1 rfl) ?_
  refine lv_if_eq (tgt := 14) hx hb dX12_isRoom_1 (by decide) (fun c1 => ?_) (fun c1 => ?_)
  · refine lv_iload_n hx hb dX12_isRoom_14 rfl (lv_at hl 1 rfl) ?_
    refine lv_if_eq (tgt := 29) hx hb dX12_isRoom_15 (by decide) (fun c2 => ?_) (fun c2 => ?_)
    · refine lv_iload_n hx hb dX12_isRoom_29 rfl (lv_at hl 1 rfl) ?_
      refine lv_if_eq (tgt := 44) hx hb dX12_isRoom_30 (by decide) (fun c3 => ?_) (fun c3 => ?_)
      · refine lv_iconst (v := 0) hx hb dX12_isRoom_44 (by decide) ?_
        subst hAe
        rw [hQ]
        exact W.zret (v := 0) hx hb hr rfl (fun t ht hW => ⟨⟨0, (), rfl, rfl, by rw [ht]; exact hP, hK.warm hW, hD⟩, hS.F ht⟩) hS.2.2 dX12_isRoom_45
      · exact absurd rfl (mm_ne c3)
    · exact absurd rfl (mm_ne c2)
  · exact absurd rfl (mm_ne c1)

set_option maxHeartbeats 4000000 in
set_option maxRecDepth 100000 in
theorem M43_X12_hasRead (l : Launch) (G : va_G) (cy : Nat → ClassId) (sz : Nat) (a_0 : Nat) (i_0 : Int32) (a_1 : Nat) (a_2 : Nat) (a_3 : Nat) (a_4 : Nat) (a_5 : Nat) (i_1 : Int32) (i_2 : Int32) (i_3 : Int32) (i_4 : Int32) (i_5 : Int32) (j_0 : Int64) (i_6 : Int32) (i_7 : Int32) (i_8 : Int32) (i_9 : Int32) (a_6 : Nat) (a_7 : Nat) (a_8 : Nat) (a_9 : Nat) (a_10 : Nat) (a_11 : Nat) (a_12 : Nat) (a_13 : Nat) (a_14 : Nat) (a_15 : Nat) (a_16 : Nat) (a_17 : Nat) (a_18 : Nat) (i_10 : Int32) (i_11 : Int32) (i_12 : Int32) (i_13 : Int32) (i_14 : Int32) (i_15 : Int32) (a_19 : Nat) (i_16 : Int32) (a_20 : Nat) (i_17 : Int32) (i_18 : Int32) (i_19 : Int32) (i_20 : Int32) (i_21 : Int32) (i_22 : Int32) (i_23 : Int32) (i_24 : Int32) (i_25 : Int32) (i_26 : Int32) (i_27 : Int32) (i_28 : Int32) (i_29 : Int32) (i_30 : Int32) (i_31 : Int32) (i_32 : Int32) (i_33 : Int32) (i_34 : Int32) (i_35 : Int32) (i_36 : Int32) (i_37 : Int32) (i_38 : Int32) (i_39 : Int32) (i_40 : Int32) (i_41 : Int32) (i_42 : Int32) (i_43 : Int32) (i_44 : Int32) (i_45 : Int32) (i_46 : Int32) (h0 : mm_rg i_17 0 10) (h1 : mm_rg i_18 0 99) (h2 : mm_rg i_19 0 9) (h3 : mm_rg i_20 0 3) (h4 : mm_rg i_21 0 6) (h5 : mm_rg i_22 0 30) (h6 : mm_rg i_23 0 10) (h7 : mm_rg i_24 0 99) (h8 : mm_rg i_25 0 9) (h9 : mm_rg i_26 0 3) (h10 : mm_rg i_27 0 6) (h11 : mm_rg i_28 0 30) (h12 : mm_rg i_29 0 10) (h13 : mm_rg i_30 0 99) (h14 : mm_rg i_31 0 9) (h15 : mm_rg i_32 0 3) (h16 : mm_rg i_33 0 6) (h17 : mm_rg i_34 0 30) (h18 : mm_rg i_35 0 10) (h19 : mm_rg i_36 0 99) (h20 : mm_rg i_37 0 9) (h21 : mm_rg i_38 0 3) (h22 : mm_rg i_39 0 6) (h23 : mm_rg i_40 0 30) (h24 : mm_rg i_41 0 10) (h25 : mm_rg i_42 0 99) (h26 : mm_rg i_43 0 9) (h27 : mm_rg i_44 0 3) (h28 : mm_rg i_45 0 6) (h29 : mm_rg i_46 0 30)  : mm_CI l yX12_hasRead (mm_ws yX12_hasRead cX12_hasRead 2 (some .int)) ({ frames := 0, cells := 0, slots := 0, locals := 0 } : Room) G cy sz [(a_0, .inr (12, [.int i_0, .ref a_1, .ref a_2, .ref a_3, .ref a_4, .ref a_5, .int i_1, .int i_2, .int i_3, .int i_4, .int i_5, .long j_0, .int i_6, .int i_7, .int i_8, .int i_9, .ref a_6, .ref a_7, .ref a_8, .ref a_9, .ref a_10, .ref a_11, .ref a_12, .ref a_13, .ref a_14, .ref a_15, .ref a_16, .ref a_17, .ref a_18, .int i_10, .int i_11, .int i_12, .int i_13, .int i_14, .int i_15, .ref a_19, .int i_16, .ref a_20])), (a_7, .inl (cy 1, 30, .inl (mm_g [i_17, i_18, i_19, i_20, i_21, i_22, i_23, i_24, i_25, i_26, i_27, i_28, i_29, i_30, i_31, i_32, i_33, i_34, i_35, i_36, i_37, i_38, i_39, i_40, i_41, i_42, i_43, i_44, i_45, i_46])))] [.ref a_0, .int 4] (fun u : Unit => [(a_0, .inr (12, [.int i_0, .ref a_1, .ref a_2, .ref a_3, .ref a_4, .ref a_5, .int i_1, .int i_2, .int i_3, .int i_4, .int i_5, .long j_0, .int i_6, .int i_7, .int i_8, .int i_9, .ref a_6, .ref a_7, .ref a_8, .ref a_9, .ref a_10, .ref a_11, .ref a_12, .ref a_13, .ref a_14, .ref a_15, .ref a_16, .ref a_17, .ref a_18, .int i_10, .int i_11, .int i_12, .int i_13, .int i_14, .int i_15, .ref a_19, .int i_16, .ref a_20])), (a_7, .inl (cy 1, 30, .inl (mm_g [i_17, i_18, i_19, i_20, i_21, i_22, i_23, i_24, i_25, i_26, i_27, i_28, i_29, i_30, i_31, i_32, i_33, i_34, i_35, i_36, i_37, i_38, i_39, i_40, i_41, i_42, i_43, i_44, i_45, i_46])))]) (fun (r : Int32) (u : Unit) => i_45 = r) 0 0 := by
  refine mm_begin (lv := [(0, .ref a_0), (1, .int 4)]) (by decide) (Nat.le_of_ble_eq_true rfl) rfl ?_
  intro p e s m below meth c A ls R args Q H locs hRe hQ hAe hx hb hr hlocks hml hown hnm hts hsz hA hS hP hK hD hZ hl
  have hRf : R.frames = 0 := by rw [hRe]
  have hRl : R.locals = 0 := by rw [hRe]
  have hRc : R.cells = 0 := by rw [hRe]
  have hRs : R.slots = 0 := by rw [hRe]
  refine lv_aload_n hx hb dX12_hasRead_0 rfl (lv_at hl 0 rfl) ?_
  refine va_get (D := G) (ci := 12) (v := .ref a_7) (C := RX12) (T := TX12) (N := 38) hx hb hts (mm_i inlX12) hown hK.1 hP 0 rfl rfl 17 (by decide) (mm_h hts mm_w149) (fun _ h9 => h9) rfl dX12_hasRead_1 ?_
  refine lv_bipush (v := 24) hx hb dX12_hasRead_4 (by decide) ?_
  refine lv_iload_n hx hb dX12_hasRead_6 rfl (lv_at hl 1 rfl) ?_
  refine lv_iadd hx hb dX12_hasRead_7 ?_
  refine lv_topi (fun v1 ev1 => ?_)
  obtain rfl : v1 = 28 := ev1.trans (by decide)
  refine va_iald hx hb hK.1 hP 1 1 rfl rfl (mm_in mm_k28 (by decide)) dX12_hasRead_8 ?_
  rw [show (mm_g [i_17, i_18, i_19, i_20, i_21, i_22, i_23, i_24, i_25, i_26, i_27, i_28, i_29, i_30, i_31, i_32, i_33, i_34, i_35, i_36, i_37, i_38, i_39, i_40, i_41, i_42, i_43, i_44, i_45, i_46]) (28 : Int32).toNatClampNeg = i_45 from mm_ge 28 (by decide) rfl]
  subst hAe
  rw [hQ]
  exact W.iret (v := i_45) hx hb hr (fun t ht hW => ⟨⟨i_45, (), rfl, rfl, by rw [ht]; exact hP, hK.warm hW, hD⟩, hS.F ht⟩) hS.2.2 dX12_hasRead_9

set_option maxHeartbeats 4000000 in
set_option maxRecDepth 100000 in
theorem M44_X12_isRoom (l : Launch) (G : va_G) (cy : Nat → ClassId) (sz : Nat) (a_0 : Nat) (i_0 : Int32) (h0 : mm_rg i_0 0 6)  : mm_CI l yX12_isRoom (mm_ws yX12_isRoom cX12_isRoom 4 (some .boolean)) ({ frames := 0, cells := 0, slots := 0, locals := 0 } : Room) G cy sz [] [.ref a_0, .int 0, .int i_0, .int 6] (fun u : Unit => []) (fun (r : Int32) (u : Unit) => 0 = r) 0 0 := by
  refine mm_begin (lv := [(0, .ref a_0), (1, .int 0), (2, .int i_0), (3, .int 6)]) (by decide) (Nat.le_of_ble_eq_true rfl) rfl ?_
  intro p e s m below meth c A ls R args Q H locs hRe hQ hAe hx hb hr hlocks hml hown hnm hts hsz hA hS hP hK hD hZ hl
  have hRf : R.frames = 0 := by rw [hRe]
  have hRl : R.locals = 0 := by rw [hRe]
  have hRc : R.cells = 0 := by rw [hRe]
  have hRs : R.slots = 0 := by rw [hRe]
  refine lv_iload_n hx hb dX12_isRoom_0 rfl (lv_at hl 1 rfl) ?_
  refine lv_if_eq (tgt := 14) hx hb dX12_isRoom_1 (by decide) (fun c1 => ?_) (fun c1 => ?_)
  · refine lv_iload_n hx hb dX12_isRoom_14 rfl (lv_at hl 1 rfl) ?_
    refine lv_if_eq (tgt := 29) hx hb dX12_isRoom_15 (by decide) (fun c2 => ?_) (fun c2 => ?_)
    · refine lv_iload_n hx hb dX12_isRoom_29 rfl (lv_at hl 1 rfl) ?_
      refine lv_if_eq (tgt := 44) hx hb dX12_isRoom_30 (by decide) (fun c3 => ?_) (fun c3 => ?_)
      · refine lv_iconst (v := 0) hx hb dX12_isRoom_44 (by decide) ?_
        subst hAe
        rw [hQ]
        exact W.zret (v := 0) hx hb hr rfl (fun t ht hW => ⟨⟨0, (), rfl, rfl, by rw [ht]; exact hP, hK.warm hW, hD⟩, hS.F ht⟩) hS.2.2 dX12_isRoom_45
      · exact absurd rfl (mm_ne c3)
    · exact absurd rfl (mm_ne c2)
  · exact absurd rfl (mm_ne c1)

set_option maxHeartbeats 4000000 in
set_option maxRecDepth 100000 in
theorem M45_X12_fails (l : Launch) (G : va_G) (cy : Nat → ClassId) (sz : Nat) (a_0 : Nat) (i_0 : Int32) (a_1 : Nat) (a_2 : Nat) (a_3 : Nat) (a_4 : Nat) (a_5 : Nat) (i_1 : Int32) (i_2 : Int32) (i_3 : Int32) (i_4 : Int32) (i_5 : Int32) (j_0 : Int64) (i_6 : Int32) (i_7 : Int32) (i_8 : Int32) (i_9 : Int32) (a_6 : Nat) (a_7 : Nat) (a_8 : Nat) (a_9 : Nat) (a_10 : Nat) (a_11 : Nat) (a_12 : Nat) (a_13 : Nat) (a_14 : Nat) (a_15 : Nat) (a_16 : Nat) (a_17 : Nat) (a_18 : Nat) (i_10 : Int32) (i_11 : Int32) (i_12 : Int32) (i_13 : Int32) (i_14 : Int32) (i_15 : Int32) (a_19 : Nat) (i_16 : Int32) (a_20 : Nat) (h0 : mm_rg i_4 0 600) (h1 : mm_rg i_6 0 3)  : mm_CV l yX12_fails (mm_ws yX12_fails cX12_fails 2 (none)) ({ frames := 0, cells := 0, slots := 0, locals := 0 } : Room) G cy sz [(a_0, .inr (12, [.int i_0, .ref a_1, .ref a_2, .ref a_3, .ref a_4, .ref a_5, .int i_1, .int i_2, .int i_3, .int i_4, .int i_5, .long j_0, .int i_6, .int i_7, .int i_8, .int i_9, .ref a_6, .ref a_7, .ref a_8, .ref a_9, .ref a_10, .ref a_11, .ref a_12, .ref a_13, .ref a_14, .ref a_15, .ref a_16, .ref a_17, .ref a_18, .int i_10, .int i_11, .int i_12, .int i_13, .int i_14, .int i_15, .ref a_19, .int i_16, .ref a_20]))] [.ref a_0, .int 3] (fun u : Int32 × Int32 => [(a_0, .inr (12, [.int i_0, .ref a_1, .ref a_2, .ref a_3, .ref a_4, .ref a_5, .int i_1, .int i_2, .int i_3, .int i_4, .int i_5, .long j_0, .int u.1, .int u.2, .int i_8, .int i_9, .ref a_6, .ref a_7, .ref a_8, .ref a_9, .ref a_10, .ref a_11, .ref a_12, .ref a_13, .ref a_14, .ref a_15, .ref a_16, .ref a_17, .ref a_18, .int i_10, .int i_11, .int i_12, .int i_13, .int i_14, .int i_15, .ref a_19, .int i_16, .ref a_20]))]) (fun u : Int32 × Int32 => mm_rg u.1 1 3) 0 0 := by
  refine mm_begin (lv := [(0, .ref a_0), (1, .int 3)]) (by decide) (Nat.le_of_ble_eq_true rfl) rfl ?_
  intro p e s m below meth c A ls R args Q H locs hRe hQ hAe hx hb hr hlocks hml hown hnm hts hsz hA hS hP hK hD hZ hl
  have hRf : R.frames = 0 := by rw [hRe]
  have hRl : R.locals = 0 := by rw [hRe]
  have hRc : R.cells = 0 := by rw [hRe]
  have hRs : R.slots = 0 := by rw [hRe]
  refine lv_aload_n hx hb dX12_fails_0 rfl (lv_at hl 0 rfl) ?_
  refine va_get (D := G) (ci := 12) (v := .int i_6) (C := RX12) (T := TX12) (N := 38) hx hb hts (mm_i inlX12) hown hK.1 hP 0 rfl rfl 12 (by decide) (mm_h hts mm_w436) (fun _ h9 => h9) rfl dX12_fails_1 ?_
  refine lv_if_eq (tgt := 8) hx hb dX12_fails_4 (by decide) (fun c1 => ?_) (fun c1 => ?_)
  · have q2 := mm_eqI (lo := 0) (hi := 0) c1 h1 mm_k0 (by decide)
    refine lv_aload_n hx hb dX12_fails_8 rfl (lv_at hl 0 rfl) ?_
    refine lv_iload_n hx hb dX12_fails_9 rfl (lv_at hl 1 rfl) ?_
    refine va_put (D := G) (ci := 12) (v := .int 3) (ty := tyX12 12) (C := RX12) (T := TX12) (N := 38) hx hb hts (mm_i inlX12) tyX12 tyX12_ok nmX12 hown hK.1 hP hD hS 0 rfl rfl 12 (by decide) (mm_h hts mm_w436) (fun _ h9 => h9) rfl (tyX12_ok 12 (by decide)) rfl rfl (Nat.le_of_ble_eq_true rfl) dX12_fails_10 ?_
    clear hP hD hS
    clear H locs
    intro H locs (hP : va_P G vwCl [(a_0, .inr (12, [.int i_0, .ref a_1, .ref a_2, .ref a_3, .ref a_4, .ref a_5, .int i_1, .int i_2, .int i_3, .int i_4, .int i_5, .long j_0, .int 3, .int i_7, .int i_8, .int i_9, .ref a_6, .ref a_7, .ref a_8, .ref a_9, .ref a_10, .ref a_11, .ref a_12, .ref a_13, .ref a_14, .ref a_15, .ref a_16, .ref a_17, .ref a_18, .int i_10, .int i_11, .int i_12, .int i_13, .int i_14, .int i_15, .ref a_19, .int i_16, .ref a_20]))] H) (hD : va_D A [(a_0, .inr (12, [.int i_0, .ref a_1, .ref a_2, .ref a_3, .ref a_4, .ref a_5, .int i_1, .int i_2, .int i_3, .int i_4, .int i_5, .long j_0, .int 3, .int i_7, .int i_8, .int i_9, .ref a_6, .ref a_7, .ref a_8, .ref a_9, .ref a_10, .ref a_11, .ref a_12, .ref a_13, .ref a_14, .ref a_15, .ref a_16, .ref a_17, .ref a_18, .int i_10, .int i_11, .int i_12, .int i_13, .int i_14, .int i_15, .ref a_19, .int i_16, .ref a_20]))]) hS
    refine lv_aload_n hx hb dX12_fails_13 rfl (lv_at hl 0 rfl) ?_
    refine lv_aload_n hx hb dX12_fails_14 rfl (lv_at hl 0 rfl) ?_
    refine va_get (D := G) (ci := 12) (v := .int i_4) (C := RX12) (T := TX12) (N := 38) hx hb hts (mm_i inlX12) hown hK.1 hP 0 rfl rfl 9 (by decide) (mm_h hts mm_w455) (fun _ h9 => h9) rfl dX12_fails_15 ?_
    refine va_put (D := G) (ci := 12) (v := .int i_4) (ty := tyX12 13) (C := RX12) (T := TX12) (N := 38) hx hb hts (mm_i inlX12) tyX12 tyX12_ok nmX12 hown hK.1 hP hD hS 0 rfl rfl 13 (by decide) (mm_h hts mm_w449) (fun _ h9 => h9) rfl (tyX12_ok 13 (by decide)) rfl rfl (Nat.le_of_ble_eq_true rfl) dX12_fails_18 ?_
    clear hP hD hS
    clear H locs
    intro H locs (hP : va_P G vwCl [(a_0, .inr (12, [.int i_0, .ref a_1, .ref a_2, .ref a_3, .ref a_4, .ref a_5, .int i_1, .int i_2, .int i_3, .int i_4, .int i_5, .long j_0, .int 3, .int i_4, .int i_8, .int i_9, .ref a_6, .ref a_7, .ref a_8, .ref a_9, .ref a_10, .ref a_11, .ref a_12, .ref a_13, .ref a_14, .ref a_15, .ref a_16, .ref a_17, .ref a_18, .int i_10, .int i_11, .int i_12, .int i_13, .int i_14, .int i_15, .ref a_19, .int i_16, .ref a_20]))] H) (hD : va_D A [(a_0, .inr (12, [.int i_0, .ref a_1, .ref a_2, .ref a_3, .ref a_4, .ref a_5, .int i_1, .int i_2, .int i_3, .int i_4, .int i_5, .long j_0, .int 3, .int i_4, .int i_8, .int i_9, .ref a_6, .ref a_7, .ref a_8, .ref a_9, .ref a_10, .ref a_11, .ref a_12, .ref a_13, .ref a_14, .ref a_15, .ref a_16, .ref a_17, .ref a_18, .int i_10, .int i_11, .int i_12, .int i_13, .int i_14, .int i_15, .ref a_19, .int i_16, .ref a_20]))]) hS
    subst hAe
    rw [hQ]
    exact W.vret hx hb hr (fun t ht hW => ⟨⟨(3, i_4), rfl, (mm_wk mm_k3 (by decide)), by rw [ht]; exact hP, hK.warm hW, hD⟩, hS.F ht⟩) hS.2.2 dX12_fails_21
  · have q3 := mm_neL (lo := 1) (mm_ne c1) h1 mm_k0 (by decide) (by decide)
    subst hAe
    rw [hQ]
    exact W.vret hx hb hr (fun t ht hW => ⟨⟨(i_6, i_7), rfl, q3, by rw [ht]; exact hP, hK.warm hW, hD⟩, hS.F ht⟩) hS.2.2 dX12_fails_7

set_option maxHeartbeats 4000000 in
set_option maxRecDepth 100000 in
theorem M46_X12_isRoom (l : Launch) (G : va_G) (cy : Nat → ClassId) (sz : Nat) (a_0 : Nat) (i_0 : Int32) (i_1 : Int32) (a_1 : Nat) (a_2 : Nat) (a_3 : Nat) (a_4 : Nat) (a_5 : Nat) (i_2 : Int32) (i_3 : Int32) (i_4 : Int32) (i_5 : Int32) (i_6 : Int32) (j_0 : Int64) (i_7 : Int32) (i_8 : Int32) (i_9 : Int32) (i_10 : Int32) (a_6 : Nat) (a_7 : Nat) (a_8 : Nat) (a_9 : Nat) (a_10 : Nat) (a_11 : Nat) (a_12 : Nat) (a_13 : Nat) (a_14 : Nat) (a_15 : Nat) (a_16 : Nat) (a_17 : Nat) (a_18 : Nat) (i_11 : Int32) (i_12 : Int32) (i_13 : Int32) (i_14 : Int32) (i_15 : Int32) (i_16 : Int32) (a_19 : Nat) (i_17 : Int32) (a_20 : Nat) (f_0 : Nat → Int32) (h0 : mm_rg i_0 0 6) (h1 : mm_rg i_2 0 600) (h2 : mm_rg i_3 0 600) (h3 : mm_rg i_4 0 4) (h4 : mm_rg i_5 0 600) (h5 : mm_rg i_7 0 3) (h6 : mm_ar f_0 (-128) 127) (h7 : (i_5 : Int32).toInt ≤ (i_3 : Int32).toInt) (h8 : (i_3 : Int32).toInt ≤ (i_2 : Int32).toInt) (h9 : mm_tk i_4 i_5 i_3)  : mm_CI l yX12_isRoom (mm_ws yX12_isRoom cX12_isRoom 4 (some .boolean)) ({ frames := 2, cells := 0, slots := 0, locals := 44 } : Room) G cy sz [(a_0, .inr (12, [.int i_1, .ref a_1, .ref a_2, .ref a_3, .ref a_4, .ref a_5, .int i_2, .int i_3, .int i_4, .int i_5, .int i_6, .long j_0, .int i_7, .int i_8, .int i_9, .int i_10, .ref a_6, .ref a_7, .ref a_8, .ref a_9, .ref a_10, .ref a_11, .ref a_12, .ref a_13, .ref a_14, .ref a_15, .ref a_16, .ref a_17, .ref a_18, .int i_11, .int i_12, .int i_13, .int i_14, .int i_15, .int i_16, .ref a_19, .int i_17, .ref a_20])), (a_5, .inl (cy 0, 600, .inl f_0))] [.ref a_0, .int 1, .int i_0, .int 6] (fun u : Int32 × Int32 × Int32 × Int32 × Int64 × Int32 × Int32 => [(a_0, .inr (12, [.int i_1, .ref a_1, .ref a_2, .ref a_3, .ref a_4, .ref a_5, .int i_2, .int u.1, .int u.2.1, .int u.2.2.1, .int u.2.2.2.1, .long u.2.2.2.2.1, .int u.2.2.2.2.2.1, .int u.2.2.2.2.2.2, .int i_9, .int i_10, .ref a_6, .ref a_7, .ref a_8, .ref a_9, .ref a_10, .ref a_11, .ref a_12, .ref a_13, .ref a_14, .ref a_15, .ref a_16, .ref a_17, .ref a_18, .int i_11, .int i_12, .int i_13, .int i_14, .int i_15, .int i_16, .ref a_19, .int i_17, .ref a_20])), (a_5, .inl (cy 0, 600, .inl f_0))]) (fun (r : Int32) (u : Int32 × Int32 × Int32 × Int32 × Int64 × Int32 × Int32) => mm_rg u.1 0 600 ∧ mm_rg u.2.1 0 4 ∧ mm_rg u.2.2.1 0 600 ∧ mm_rg u.2.2.2.2.2.1 0 3 ∧ (u.2.2.1 : Int32).toInt ≤ (u.1 : Int32).toInt ∧ (u.1 : Int32).toInt ≤ (i_2 : Int32).toInt ∧ mm_tk u.2.1 u.2.2.1 u.1 ∧ (i_5 : Int32).toInt ≤ (u.2.2.1 : Int32).toInt ∧ ((0 = r ∧ mm_rg i_0 0 6) ∨ (1 = r ∧ mm_rg i_0 0 5))) 0 0 := by
  refine mm_begin (lv := [(0, .ref a_0), (1, .int 1), (2, .int i_0), (3, .int 6)]) (by decide) (Nat.le_of_ble_eq_true rfl) rfl ?_
  intro p e s m below meth c A ls R args Q H locs hRe hQ hAe hx hb hr hlocks hml hown hnm hts hsz hA hS hP hK hD hZ hl
  have hRf : R.frames = 2 := by rw [hRe]
  have hRl : R.locals = 44 := by rw [hRe]
  have hRc : R.cells = 0 := by rw [hRe]
  have hRs : R.slots = 0 := by rw [hRe]
  refine lv_iload_n hx hb dX12_isRoom_0 rfl (lv_at hl 1 rfl) ?_
  refine lv_if_eq (tgt := 14) hx hb dX12_isRoom_1 (by decide) (fun c1 => ?_) (fun c1 => ?_)
  · exact mm_eqN c1.symm mm_k0 mm_k1 (by decide)
  · refine lv_iload_n hx hb dX12_isRoom_4 rfl (lv_at hl 2 rfl) ?_
    refine lv_iload_n hx hb dX12_isRoom_5 rfl (lv_at hl 3 rfl) ?_
    refine lv_icmp_ne (tgt := 14) hx hb dX12_isRoom_6 (by decide) (fun c2 => ?_) (fun c2 => ?_)
    · have q3 := mm_neH (hi := 5) (mm_ne c2) h0 mm_k6 (by decide) (by decide)
      refine lv_iload_n hx hb dX12_isRoom_14 rfl (lv_at hl 1 rfl) ?_
      refine lv_if_eq (tgt := 29) hx hb dX12_isRoom_15 (by decide) (fun c4 => ?_) (fun c4 => ?_)
      · exact mm_eqN c4.symm mm_k0 mm_k1 (by decide)
      · refine lv_aload_n hx hb dX12_isRoom_18 rfl (lv_at hl 0 rfl) ?_
        refine va_get (D := G) (ci := 12) (v := .int i_7) (C := RX12) (T := TX12) (N := 38) hx hb hts (mm_i inlX12) hown hK.1 hP 0 rfl rfl 12 (by decide) (mm_h hts mm_w436) (fun _ h9 => h9) rfl dX12_isRoom_19 ?_
        refine lv_if_ne (tgt := 29) hx hb dX12_isRoom_22 (by decide) (fun c5 => ?_) (fun c5 => ?_)
        · have q6 := mm_neL (lo := 1) (mm_ne c5) h5 mm_k0 (by decide) (by decide)
          refine lv_iload_n hx hb dX12_isRoom_29 rfl (lv_at hl 1 rfl) ?_
          refine lv_if_eq (tgt := 44) hx hb dX12_isRoom_30 (by decide) (fun c7 => ?_) (fun c7 => ?_)
          · exact mm_eqN c7.symm mm_k0 mm_k1 (by decide)
          · refine lv_aload_n hx hb dX12_isRoom_33 rfl (lv_at hl 0 rfl) ?_
            refine va_get (D := G) (ci := 12) (v := .int i_7) (C := RX12) (T := TX12) (N := 38) hx hb hts (mm_i inlX12) hown hK.1 hP 0 rfl rfl 12 (by decide) (mm_h hts mm_w436) (fun _ h9 => h9) rfl dX12_isRoom_34 ?_
            refine lv_if_ne (tgt := 44) hx hb dX12_isRoom_37 (by decide) (fun c8 => ?_) (fun c8 => ?_)
            · refine lv_iconst (v := 0) hx hb dX12_isRoom_44 (by decide) ?_
              have w9 : (i_5 : Int32).toInt ≤ (i_5 : Int32).toInt := (Int.le_refl _)
              subst hAe
              rw [hQ]
              exact W.zret (v := 0) hx hb hr rfl (fun t ht hW => ⟨⟨0, (i_3, i_4, i_5, i_6, j_0, i_7, i_8), rfl, ⟨h2, h3, h4, (mm_wk q6 (by decide)), h7, h8, h9, w9, (Or.inl ⟨rfl, (mm_wk q3 (by decide))⟩)⟩, by rw [ht]; exact hP, hK.warm hW, hD⟩, hS.F ht⟩) hS.2.2 dX12_isRoom_45
            · exact mm_eqN c8.symm mm_k0 q6 (by decide)
        · have q10 := mm_eqI (lo := 0) (hi := 0) c5 h5 mm_k0 (by decide)
          refine lv_aload_n hx hb dX12_isRoom_25 rfl (lv_at hl 0 rfl) ?_
          refine mm_finv (va_runV (As := []) (rest := []) ⟨hx, hb, hml, hown, hts⟩ (M22_X12_next l G cy H.size a_0 i_1 a_1 a_2 a_3 a_4 a_5 i_2 i_3 i_4 i_5 i_6 j_0 i_7 i_8 i_9 i_10 a_6 a_7 a_8 a_9 a_10 a_11 a_12 a_13 a_14 a_15 a_16 a_17 a_18 i_11 i_12 i_13 i_14 i_15 i_16 a_19 i_17 a_20 f_0 h1 h2 h3 h4 h6 h8) (cwV 0 hts (mm_gV mm_w451 mm_w452 mm_w453 mm_w5 mm_w454) rfl rfl rfl hd_X12_next ⟨by rw [hRf]; exact Nat.le_of_ble_eq_true rfl, by rw [hRl]; exact Nat.le_of_ble_eq_true rfl⟩) (mm_preV hK hZ hS hA hP hD [0, 1] rfl rfl 0 rfl rfl rfl) rfl rfl hl.1 rfl (lv_room (Nat.le_of_ble_eq_true rfl)) dX12_isRoom_26 ⟨by rw [hRc]; exact Nat.le_of_ble_eq_true rfl, by rw [hRs]; exact Nat.le_of_ble_eq_true rfl⟩) hP hD hS hA (fun u : Int32 × Int32 × Int32 × Int32 × Int64 => [(a_0, .inr (12, [.int i_1, .ref a_1, .ref a_2, .ref a_3, .ref a_4, .ref a_5, .int i_2, .int u.1, .int u.2.1, .int u.2.2.1, .int u.2.2.2.1, .long u.2.2.2.2, .int i_7, .int i_8, .int i_9, .int i_10, .ref a_6, .ref a_7, .ref a_8, .ref a_9, .ref a_10, .ref a_11, .ref a_12, .ref a_13, .ref a_14, .ref a_15, .ref a_16, .ref a_17, .ref a_18, .int i_11, .int i_12, .int i_13, .int i_14, .int i_15, .int i_16, .ref a_19, .int i_17, .ref a_20])), (a_5, .inl (cy 0, 600, .inl f_0))]) [0, 1] [] (n := 2) (fun _ => rfl) (by decide +kernel) (by decide +kernel) rfl (fun _ => rfl) (wr := []) rfl (fun _ => rfl) (fun _ => rfl) ?_
          clear hP hD hS
          clear H locs
          intro u
          obtain ⟨n11, n12, n13, n14, n15⟩ := u
          intro H locs hw (hP : va_P G vwCl [(a_0, .inr (12, [.int i_1, .ref a_1, .ref a_2, .ref a_3, .ref a_4, .ref a_5, .int i_2, .int n11, .int n12, .int n13, .int n14, .long n15, .int i_7, .int i_8, .int i_9, .int i_10, .ref a_6, .ref a_7, .ref a_8, .ref a_9, .ref a_10, .ref a_11, .ref a_12, .ref a_13, .ref a_14, .ref a_15, .ref a_16, .ref a_17, .ref a_18, .int i_11, .int i_12, .int i_13, .int i_14, .int i_15, .int i_16, .ref a_19, .int i_17, .ref a_20])), (a_5, .inl (cy 0, 600, .inl f_0))] H) (hD : va_D A [(a_0, .inr (12, [.int i_1, .ref a_1, .ref a_2, .ref a_3, .ref a_4, .ref a_5, .int i_2, .int n11, .int n12, .int n13, .int n14, .long n15, .int i_7, .int i_8, .int i_9, .int i_10, .ref a_6, .ref a_7, .ref a_8, .ref a_9, .ref a_10, .ref a_11, .ref a_12, .ref a_13, .ref a_14, .ref a_15, .ref a_16, .ref a_17, .ref a_18, .int i_11, .int i_12, .int i_13, .int i_14, .int i_15, .int i_16, .ref a_19, .int i_17, .ref a_20])), (a_5, .inl (cy 0, 600, .inl f_0))]) hS
          obtain ⟨w16, w17, w18, w19, w20, w21, w22⟩ := hw
          replace w19 : (n13 : Int32).toInt ≤ (n11 : Int32).toInt := w19
          replace w20 : (n11 : Int32).toInt ≤ (i_2 : Int32).toInt := w20
          replace w21 : mm_tk n12 n13 n11 := w21
          replace w22 : (i_3 : Int32).toInt ≤ (n13 : Int32).toInt := w22
          refine lv_iload_n hx hb dX12_isRoom_29 rfl (lv_at hl 1 rfl) ?_
          refine lv_if_eq (tgt := 44) hx hb dX12_isRoom_30 (by decide) (fun c23 => ?_) (fun c23 => ?_)
          · exact mm_eqN c23.symm mm_k0 mm_k1 (by decide)
          · refine lv_aload_n hx hb dX12_isRoom_33 rfl (lv_at hl 0 rfl) ?_
            refine va_get (D := G) (ci := 12) (v := .int i_7) (C := RX12) (T := TX12) (N := 38) hx hb hts (mm_i inlX12) hown hK.1 hP 0 rfl rfl 12 (by decide) (mm_h hts mm_w436) (fun _ h9 => h9) rfl dX12_isRoom_34 ?_
            refine lv_if_ne (tgt := 44) hx hb dX12_isRoom_37 (by decide) (fun c24 => ?_) (fun c24 => ?_)
            · have q25 := mm_neL (lo := 1) (mm_ne c24) q10 mm_k0 (by decide) (by decide)
              exact mm_no q25 (by decide)
            · refine lv_iconst (v := 1) hx hb dX12_isRoom_40 (by decide) ?_
              refine lv_goto (tgt := 45) hx hb dX12_isRoom_41 (by decide) ?_
              have w26 : (i_5 : Int32).toInt ≤ (n13 : Int32).toInt := (by have := h7; have := w22; omega)
              subst hAe
              rw [hQ]
              exact W.zret (v := 1) hx hb hr rfl (fun t ht hW => ⟨⟨1, (n11, n12, n13, n14, n15, i_7, i_8), rfl, ⟨w16, w17, w18, (mm_wk q10 (by decide)), w19, w20, w21, w26, (Or.inr ⟨rfl, q3⟩)⟩, by rw [ht]; exact hP, hK.warm hW, hD⟩, hS.F ht⟩) hS.2.2 dX12_isRoom_45
    · have q27 := mm_eqI (lo := 6) (hi := 6) c2 h0 mm_k6 (by decide)
      refine lv_aload_n hx hb dX12_isRoom_9 rfl (lv_at hl 0 rfl) ?_
      refine lv_iconst (v := 3) hx hb dX12_isRoom_10 (by decide) ?_
      refine mm_finv (va_runV (As := [.int 3]) (rest := []) ⟨hx, hb, hml, hown, hts⟩ (M45_X12_fails l G cy H.size a_0 i_1 a_1 a_2 a_3 a_4 a_5 i_2 i_3 i_4 i_5 i_6 j_0 i_7 i_8 i_9 i_10 a_6 a_7 a_8 a_9 a_10 a_11 a_12 a_13 a_14 a_15 a_16 a_17 a_18 i_11 i_12 i_13 i_14 i_15 i_16 a_19 i_17 a_20 h4 h5) (cwV 1 hts (mm_gV mm_w483 mm_w484 mm_w485 mm_w5 mm_w486) rfl rfl rfl hd_X12_fails ⟨by rw [hRf]; exact Nat.le_of_ble_eq_true rfl, by rw [hRl]; exact Nat.le_of_ble_eq_true rfl⟩) (mm_preV hK hZ hS hA hP hD [0] rfl rfl 0 rfl rfl rfl) rfl rfl hl.1 rfl (lv_room (Nat.le_of_ble_eq_true rfl)) dX12_isRoom_11 ⟨by rw [hRc]; exact Nat.le_of_ble_eq_true rfl, by rw [hRs]; exact Nat.le_of_ble_eq_true rfl⟩) hP hD hS hA (fun u : Int32 × Int32 => [(a_0, .inr (12, [.int i_1, .ref a_1, .ref a_2, .ref a_3, .ref a_4, .ref a_5, .int i_2, .int i_3, .int i_4, .int i_5, .int i_6, .long j_0, .int u.1, .int u.2, .int i_9, .int i_10, .ref a_6, .ref a_7, .ref a_8, .ref a_9, .ref a_10, .ref a_11, .ref a_12, .ref a_13, .ref a_14, .ref a_15, .ref a_16, .ref a_17, .ref a_18, .int i_11, .int i_12, .int i_13, .int i_14, .int i_15, .int i_16, .ref a_19, .int i_17, .ref a_20])), (a_5, .inl (cy 0, 600, .inl f_0))]) [0] [1] (n := 2) (fun _ => rfl) (by decide +kernel) (by decide +kernel) rfl (fun _ => rfl) (wr := [(a_5, .inl (cy 0, 600, .inl f_0))]) rfl (fun _ => rfl) (fun _ => rfl) ?_
      clear hP hD hS
      clear H locs
      intro u
      obtain ⟨n28, n29⟩ := u
      intro H locs hw (hP : va_P G vwCl [(a_0, .inr (12, [.int i_1, .ref a_1, .ref a_2, .ref a_3, .ref a_4, .ref a_5, .int i_2, .int i_3, .int i_4, .int i_5, .int i_6, .long j_0, .int n28, .int n29, .int i_9, .int i_10, .ref a_6, .ref a_7, .ref a_8, .ref a_9, .ref a_10, .ref a_11, .ref a_12, .ref a_13, .ref a_14, .ref a_15, .ref a_16, .ref a_17, .ref a_18, .int i_11, .int i_12, .int i_13, .int i_14, .int i_15, .int i_16, .ref a_19, .int i_17, .ref a_20])), (a_5, .inl (cy 0, 600, .inl f_0))] H) (hD : va_D A [(a_0, .inr (12, [.int i_1, .ref a_1, .ref a_2, .ref a_3, .ref a_4, .ref a_5, .int i_2, .int i_3, .int i_4, .int i_5, .int i_6, .long j_0, .int n28, .int n29, .int i_9, .int i_10, .ref a_6, .ref a_7, .ref a_8, .ref a_9, .ref a_10, .ref a_11, .ref a_12, .ref a_13, .ref a_14, .ref a_15, .ref a_16, .ref a_17, .ref a_18, .int i_11, .int i_12, .int i_13, .int i_14, .int i_15, .int i_16, .ref a_19, .int i_17, .ref a_20])), (a_5, .inl (cy 0, 600, .inl f_0))]) hS
      have w30 := hw
      refine lv_iload_n hx hb dX12_isRoom_14 rfl (lv_at hl 1 rfl) ?_
      refine lv_if_eq (tgt := 29) hx hb dX12_isRoom_15 (by decide) (fun c31 => ?_) (fun c31 => ?_)
      · exact mm_eqN c31.symm mm_k0 mm_k1 (by decide)
      · refine lv_aload_n hx hb dX12_isRoom_18 rfl (lv_at hl 0 rfl) ?_
        refine va_get (D := G) (ci := 12) (v := .int n28) (C := RX12) (T := TX12) (N := 38) hx hb hts (mm_i inlX12) hown hK.1 hP 0 rfl rfl 12 (by decide) (mm_h hts mm_w436) (fun _ h9 => h9) rfl dX12_isRoom_19 ?_
        refine lv_if_ne (tgt := 29) hx hb dX12_isRoom_22 (by decide) (fun c32 => ?_) (fun c32 => ?_)
        · refine lv_iload_n hx hb dX12_isRoom_29 rfl (lv_at hl 1 rfl) ?_
          refine lv_if_eq (tgt := 44) hx hb dX12_isRoom_30 (by decide) (fun c33 => ?_) (fun c33 => ?_)
          · exact mm_eqN c33.symm mm_k0 mm_k1 (by decide)
          · refine lv_aload_n hx hb dX12_isRoom_33 rfl (lv_at hl 0 rfl) ?_
            refine va_get (D := G) (ci := 12) (v := .int n28) (C := RX12) (T := TX12) (N := 38) hx hb hts (mm_i inlX12) hown hK.1 hP 0 rfl rfl 12 (by decide) (mm_h hts mm_w436) (fun _ h9 => h9) rfl dX12_isRoom_34 ?_
            refine lv_if_ne (tgt := 44) hx hb dX12_isRoom_37 (by decide) (fun c34 => ?_) (fun c34 => ?_)
            · refine lv_iconst (v := 0) hx hb dX12_isRoom_44 (by decide) ?_
              have w35 : (i_5 : Int32).toInt ≤ (i_5 : Int32).toInt := (Int.le_refl _)
              subst hAe
              rw [hQ]
              exact W.zret (v := 0) hx hb hr rfl (fun t ht hW => ⟨⟨0, (i_3, i_4, i_5, i_6, j_0, n28, n29), rfl, ⟨h2, h3, h4, (mm_wk w30 (by decide)), h7, h8, h9, w35, (Or.inl ⟨rfl, (mm_wk q27 (by decide))⟩)⟩, by rw [ht]; exact hP, hK.warm hW, hD⟩, hS.F ht⟩) hS.2.2 dX12_isRoom_45
            · exact mm_eqN c34.symm mm_k0 w30 (by decide)
        · exact mm_eqN c32.symm mm_k0 w30 (by decide)

set_option maxHeartbeats 4000000 in
set_option maxRecDepth 100000 in
theorem M47_X12_number (l : Launch) (G : va_G) (cy : Nat → ClassId) (sz : Nat) (a_0 : Nat) (i_0 : Int32) (i_1 : Int32) (a_1 : Nat) (a_2 : Nat) (a_3 : Nat) (a_4 : Nat) (a_5 : Nat) (i_2 : Int32) (i_3 : Int32) (i_4 : Int32) (i_5 : Int32) (i_6 : Int32) (j_0 : Int64) (i_7 : Int32) (i_8 : Int32) (i_9 : Int32) (i_10 : Int32) (a_6 : Nat) (a_7 : Nat) (a_8 : Nat) (a_9 : Nat) (a_10 : Nat) (a_11 : Nat) (a_12 : Nat) (a_13 : Nat) (a_14 : Nat) (a_15 : Nat) (a_16 : Nat) (a_17 : Nat) (a_18 : Nat) (i_11 : Int32) (i_12 : Int32) (i_13 : Int32) (i_14 : Int32) (i_15 : Int32) (i_16 : Int32) (a_19 : Nat) (i_17 : Int32) (a_20 : Nat) (f_0 : Nat → Int32) (h0 : mm_rg i_0 0 9) (h1 : mm_rg i_2 0 600) (h2 : mm_rg i_3 0 600) (h3 : mm_rg i_4 0 4) (h4 : mm_rg i_5 0 600) (h5 : mm_rg i_7 0 3) (h6 : mm_ar f_0 (-128) 127) (h7 : (i_5 : Int32).toInt ≤ (i_3 : Int32).toInt) (h8 : (i_3 : Int32).toInt ≤ (i_2 : Int32).toInt) (h9 : mm_tk i_4 i_5 i_3)  : mm_CI l yX12_number (mm_ws yX12_number cX12_number 4 (some .int)) ({ frames := 2, cells := 0, slots := 0, locals := 44 } : Room) G cy sz [(a_0, .inr (12, [.int i_1, .ref a_1, .ref a_2, .ref a_3, .ref a_4, .ref a_5, .int i_2, .int i_3, .int i_4, .int i_5, .int i_6, .long j_0, .int i_7, .int i_8, .int i_9, .int i_10, .ref a_6, .ref a_7, .ref a_8, .ref a_9, .ref a_10, .ref a_11, .ref a_12, .ref a_13, .ref a_14, .ref a_15, .ref a_16, .ref a_17, .ref a_18, .int i_11, .int i_12, .int i_13, .int i_14, .int i_15, .int i_16, .ref a_19, .int i_17, .ref a_20])), (a_5, .inl (cy 0, 600, .inl f_0))] [.ref a_0, .int 0, .int i_0] (fun u : Int32 × Int32 × Int32 × Int32 × Int64 × Int32 × Int32 => [(a_0, .inr (12, [.int i_1, .ref a_1, .ref a_2, .ref a_3, .ref a_4, .ref a_5, .int i_2, .int u.1, .int u.2.1, .int u.2.2.1, .int u.2.2.2.1, .long u.2.2.2.2.1, .int u.2.2.2.2.2.1, .int u.2.2.2.2.2.2, .int i_9, .int i_10, .ref a_6, .ref a_7, .ref a_8, .ref a_9, .ref a_10, .ref a_11, .ref a_12, .ref a_13, .ref a_14, .ref a_15, .ref a_16, .ref a_17, .ref a_18, .int i_11, .int i_12, .int i_13, .int i_14, .int i_15, .int i_16, .ref a_19, .int i_17, .ref a_20])), (a_5, .inl (cy 0, 600, .inl f_0))]) (fun (r : Int32) (u : Int32 × Int32 × Int32 × Int32 × Int64 × Int32 × Int32) => mm_rg u.1 0 600 ∧ mm_rg u.2.1 0 4 ∧ mm_rg u.2.2.1 0 600 ∧ mm_rg u.2.2.2.2.2.1 0 3 ∧ (u.2.2.1 : Int32).toInt ≤ (u.1 : Int32).toInt ∧ (u.1 : Int32).toInt ≤ (i_2 : Int32).toInt ∧ mm_tk u.2.1 u.2.2.1 u.1 ∧ (i_5 : Int32).toInt ≤ (u.2.2.1 : Int32).toInt ∧ mm_b0 i_7 u.2.2.2.2.2.1 ∧ mm_rg r 0 9 ∧ (r : Int32).toInt ≤ (i_0 : Int32).toInt ∧ mm_nv u.2.2.2.2.2.1 r i_4 i_6) 0 0 := by
  refine mm_begin (lv := [(0, .ref a_0), (1, .int 0), (2, .int i_0)]) (by decide) (Nat.le_of_ble_eq_true rfl) rfl ?_
  intro p e s m below meth c A ls R args Q H locs hRe hQ hAe hx hb hr hlocks hml hown hnm hts hsz hA hS hP hK hD hZ hl
  have hRf : R.frames = 2 := by rw [hRe]
  have hRl : R.locals = 44 := by rw [hRe]
  have hRc : R.cells = 0 := by rw [hRe]
  have hRs : R.slots = 0 := by rw [hRe]
  refine lv_aload_n hx hb dX12_number_0 rfl (lv_at hl 0 rfl) ?_
  refine va_get (D := G) (ci := 12) (v := .int i_7) (C := RX12) (T := TX12) (N := 38) hx hb hts (mm_i inlX12) hown hK.1 hP 0 rfl rfl 12 (by decide) (mm_h hts mm_w436) (fun _ h9 => h9) rfl dX12_number_1 ?_
  refine lv_if_eq (tgt := 9) hx hb dX12_number_4 (by decide) (fun c1 => ?_) (fun c1 => ?_)
  · have q2 := mm_eqI (lo := 0) (hi := 0) c1 h5 mm_k0 (by decide)
    refine lv_aload_n hx hb dX12_number_9 rfl (lv_at hl 0 rfl) ?_
    refine va_get (D := G) (ci := 12) (v := .int i_4) (C := RX12) (T := TX12) (N := 38) hx hb hts (mm_i inlX12) hown hK.1 hP 0 rfl rfl 8 (by decide) (mm_h hts mm_w432) (fun _ h9 => h9) rfl dX12_number_10 ?_
    refine lv_iconst (v := 2) hx hb dX12_number_13 (by decide) ?_
    refine lv_icmp_eq (tgt := 24) hx hb dX12_number_14 (by decide) (fun c3 => ?_) (fun c3 => ?_)
    · have q4 := mm_eqI (lo := 2) (hi := 2) c3 h3 mm_k2 (by decide)
      refine lv_aload_n hx hb dX12_number_24 rfl (lv_at hl 0 rfl) ?_
      refine va_get (D := G) (ci := 12) (v := .int i_6) (C := RX12) (T := TX12) (N := 38) hx hb hts (mm_i inlX12) hown hK.1 hP 0 rfl rfl 10 (by decide) (mm_h hts mm_w456) (fun _ h9 => h9) rfl dX12_number_25 ?_
      obtain ⟨v5, ev5⟩ : ∃ y : Int64, y = i_6.toInt64 := ⟨_, rfl⟩
      refine lv_i2l hx hb dX12_number_28 ev5.symm ?_
      have rv5 : mm_rl v5 (-2147483648) 2147483647 := mm_i2l ev5 (mm_top i_6)
      refine lv_iload_n hx hb dX12_number_29 rfl (lv_at hl 1 rfl) ?_
      refine lv_i2l (v := 0) hx hb dX12_number_30 (by decide) ?_
      refine lv_iload_n hx hb dX12_number_31 rfl (lv_at hl 2 rfl) ?_
      obtain ⟨v6, ev6⟩ : ∃ y : Int64, y = i_0.toInt64 := ⟨_, rfl⟩
      refine lv_i2l hx hb dX12_number_32 ev6.symm ?_
      have rv6 : mm_rl v6 0 9 := mm_i2l ev6 h0
      refine mm_finir (va_runS (As := [.long v5, .long 0, .long v6]) (rest := []) ⟨hx, hb, hml, hown, hts⟩ (M7_X12_in l G cy H.size v5 v6 ) (va_cwS 3 hts (mm_gS mm_w191 mm_w192 mm_w5 mm_w193) rfl rfl rfl hs_X12_in ⟨by rw [hRf]; exact Nat.le_of_ble_eq_true rfl, by rw [hRl]; exact Nat.le_of_ble_eq_true rfl⟩) (mm_preS hK hZ hS hA hP hD [] rfl rfl) rfl rfl hl.1 rfl (lv_room (Nat.le_of_ble_eq_true rfl)) dX12_number_33 ⟨by rw [hRc]; exact Nat.le_of_ble_eq_true rfl, by rw [hRs]; exact Nat.le_of_ble_eq_true rfl⟩) hP hD hS hA [] rfl (fun _ => rfl) ?_
      clear hP hD hS
      clear H locs
      intro v7 _u H locs hw hP hD hS
      rcases hw with ⟨rfl, w8⟩ | ⟨rfl, w9, w10, w11, w12⟩
      · refine lv_if_ne (tgt := 46) hx hb dX12_number_36 (by decide) (fun c13 => ?_) (fun c13 => ?_)
        · exact absurd rfl (mm_ne c13)
        · refine lv_aload_n hx hb dX12_number_39 rfl (lv_at hl 0 rfl) ?_
          refine lv_iconst (v := 2) hx hb dX12_number_40 (by decide) ?_
          refine mm_finv (va_runV (As := [.int 2]) (rest := []) ⟨hx, hb, hml, hown, hts⟩ (M29_X12_fails l G cy H.size a_0 i_1 a_1 a_2 a_3 a_4 a_5 i_2 i_3 i_4 i_5 i_6 j_0 i_7 i_8 i_9 i_10 a_6 a_7 a_8 a_9 a_10 a_11 a_12 a_13 a_14 a_15 a_16 a_17 a_18 i_11 i_12 i_13 i_14 i_15 i_16 a_19 i_17 a_20 h4 (mm_wk q2 (by decide))) (cwV 1 hts (mm_gV mm_w483 mm_w484 mm_w485 mm_w5 mm_w486) rfl rfl rfl hd_X12_fails ⟨by rw [hRf]; exact Nat.le_of_ble_eq_true rfl, by rw [hRl]; exact Nat.le_of_ble_eq_true rfl⟩) (mm_preV hK hZ hS hA hP hD [0] rfl rfl 0 rfl rfl rfl) rfl rfl hl.1 rfl (lv_room (Nat.le_of_ble_eq_true rfl)) dX12_number_41 ⟨by rw [hRc]; exact Nat.le_of_ble_eq_true rfl, by rw [hRs]; exact Nat.le_of_ble_eq_true rfl⟩) hP hD hS hA (fun u : Int32 × Int32 => [(a_0, .inr (12, [.int i_1, .ref a_1, .ref a_2, .ref a_3, .ref a_4, .ref a_5, .int i_2, .int i_3, .int i_4, .int i_5, .int i_6, .long j_0, .int u.1, .int u.2, .int i_9, .int i_10, .ref a_6, .ref a_7, .ref a_8, .ref a_9, .ref a_10, .ref a_11, .ref a_12, .ref a_13, .ref a_14, .ref a_15, .ref a_16, .ref a_17, .ref a_18, .int i_11, .int i_12, .int i_13, .int i_14, .int i_15, .int i_16, .ref a_19, .int i_17, .ref a_20])), (a_5, .inl (cy 0, 600, .inl f_0))]) [0] [1] (n := 2) (fun _ => rfl) (by decide +kernel) (by decide +kernel) rfl (fun _ => rfl) (wr := [(a_5, .inl (cy 0, 600, .inl f_0))]) rfl (fun _ => rfl) (fun _ => rfl) ?_
          clear hP hD hS
          clear H locs
          intro u
          obtain ⟨n14, n15⟩ := u
          intro H locs hw (hP : va_P G vwCl [(a_0, .inr (12, [.int i_1, .ref a_1, .ref a_2, .ref a_3, .ref a_4, .ref a_5, .int i_2, .int i_3, .int i_4, .int i_5, .int i_6, .long j_0, .int n14, .int n15, .int i_9, .int i_10, .ref a_6, .ref a_7, .ref a_8, .ref a_9, .ref a_10, .ref a_11, .ref a_12, .ref a_13, .ref a_14, .ref a_15, .ref a_16, .ref a_17, .ref a_18, .int i_11, .int i_12, .int i_13, .int i_14, .int i_15, .int i_16, .ref a_19, .int i_17, .ref a_20])), (a_5, .inl (cy 0, 600, .inl f_0))] H) (hD : va_D A [(a_0, .inr (12, [.int i_1, .ref a_1, .ref a_2, .ref a_3, .ref a_4, .ref a_5, .int i_2, .int i_3, .int i_4, .int i_5, .int i_6, .long j_0, .int n14, .int n15, .int i_9, .int i_10, .ref a_6, .ref a_7, .ref a_8, .ref a_9, .ref a_10, .ref a_11, .ref a_12, .ref a_13, .ref a_14, .ref a_15, .ref a_16, .ref a_17, .ref a_18, .int i_11, .int i_12, .int i_13, .int i_14, .int i_15, .int i_16, .ref a_19, .int i_17, .ref a_20])), (a_5, .inl (cy 0, 600, .inl f_0))]) hS
          have w16 := hw
          refine lv_iload_n hx hb dX12_number_44 rfl (lv_at hl 1 rfl) ?_
          have w17 : (i_5 : Int32).toInt ≤ (i_5 : Int32).toInt := (Int.le_refl _)
          have w18 : mm_b0 i_7 n14 := (mm_b0_n w16 (by decide))
          have w19 : (0 : Int32).toInt ≤ (i_0 : Int32).toInt := (mm_leC mm_k0 h0 (by decide))
          have w20 : mm_nv n14 0 i_4 i_6 := (mm_nv_n w16 (by decide))
          subst hAe
          rw [hQ]
          exact W.iret (v := 0) hx hb hr (fun t ht hW => ⟨⟨0, (i_3, i_4, i_5, i_6, j_0, n14, n15), rfl, ⟨h2, (mm_wk q4 (by decide)), h4, (mm_wk w16 (by decide)), h7, h8, h9, w17, w18, ⟨(mm_wk mm_k0 (by decide)), w19, w20⟩⟩, by rw [ht]; exact hP, hK.warm hW, hD⟩, hS.F ht⟩) hS.2.2 dX12_number_45
      · have q21 := mm_meetl (lo := 0) (hi := 2147483647) w9 rv5 (by decide)
        have q22 := mm_meet (lo := 0) (hi := 2147483647) (mm_l2x ev5 q21) (mm_top i_6) (by decide)
        have q23 := mm_leLl w11 q21 rv6
        have q24 := mm_meet (lo := 0) (hi := 9) (mm_l2x ev5 q23) q22 (by decide)
        have w25 : (i_6 : Int32).toInt ≤ (i_0 : Int32).toInt := by have := (mm_i2lE ev5); have := (mm_i2lE ev6); have := w11; omega
        refine lv_if_ne (tgt := 46) hx hb dX12_number_36 (by decide) (fun c26 => ?_) (fun c26 => ?_)
        · refine lv_aload_n hx hb dX12_number_46 rfl (lv_at hl 0 rfl) ?_
          refine va_get (D := G) (ci := 12) (v := .int i_6) (C := RX12) (T := TX12) (N := 38) hx hb hts (mm_i inlX12) hown hK.1 hP 0 rfl rfl 10 (by decide) (mm_h hts mm_w456) (fun _ h9 => h9) rfl dX12_number_47 ?_
          refine lv_istore_n (lv' := [(3, .int i_6), (0, .ref a_0), (1, .int 0), (2, .int i_0)]) hx hb dX12_number_50 rfl hl (by decide) rfl ?_
          clear hl
          clear ls
          intro ls hl
          refine lv_aload_n hx hb dX12_number_51 rfl (lv_at hl 1 rfl) ?_
          refine mm_finv (va_runV (As := []) (rest := []) ⟨hx, hb, hml, hown, hts⟩ (M22_X12_next l G cy H.size a_0 i_1 a_1 a_2 a_3 a_4 a_5 i_2 i_3 i_4 i_5 i_6 j_0 i_7 i_8 i_9 i_10 a_6 a_7 a_8 a_9 a_10 a_11 a_12 a_13 a_14 a_15 a_16 a_17 a_18 i_11 i_12 i_13 i_14 i_15 i_16 a_19 i_17 a_20 f_0 h1 h2 (mm_wk q4 (by decide)) h4 h6 h8) (cwV 0 hts (mm_gV mm_w451 mm_w452 mm_w453 mm_w5 mm_w454) rfl rfl rfl hd_X12_next ⟨by rw [hRf]; exact Nat.le_of_ble_eq_true rfl, by rw [hRl]; exact Nat.le_of_ble_eq_true rfl⟩) (mm_preV hK hZ hS hA hP hD [0, 1] rfl rfl 0 rfl rfl rfl) rfl rfl hl.1 rfl (lv_room (Nat.le_of_ble_eq_true rfl)) dX12_number_52 ⟨by rw [hRc]; exact Nat.le_of_ble_eq_true rfl, by rw [hRs]; exact Nat.le_of_ble_eq_true rfl⟩) hP hD hS hA (fun u : Int32 × Int32 × Int32 × Int32 × Int64 => [(a_0, .inr (12, [.int i_1, .ref a_1, .ref a_2, .ref a_3, .ref a_4, .ref a_5, .int i_2, .int u.1, .int u.2.1, .int u.2.2.1, .int u.2.2.2.1, .long u.2.2.2.2, .int i_7, .int i_8, .int i_9, .int i_10, .ref a_6, .ref a_7, .ref a_8, .ref a_9, .ref a_10, .ref a_11, .ref a_12, .ref a_13, .ref a_14, .ref a_15, .ref a_16, .ref a_17, .ref a_18, .int i_11, .int i_12, .int i_13, .int i_14, .int i_15, .int i_16, .ref a_19, .int i_17, .ref a_20])), (a_5, .inl (cy 0, 600, .inl f_0))]) [0, 1] [] (n := 2) (fun _ => rfl) (by decide +kernel) (by decide +kernel) rfl (fun _ => rfl) (wr := []) rfl (fun _ => rfl) (fun _ => rfl) ?_
          clear hP hD hS
          clear H locs
          intro u
          obtain ⟨n27, n28, n29, n30, n31⟩ := u
          intro H locs hw (hP : va_P G vwCl [(a_0, .inr (12, [.int i_1, .ref a_1, .ref a_2, .ref a_3, .ref a_4, .ref a_5, .int i_2, .int n27, .int n28, .int n29, .int n30, .long n31, .int i_7, .int i_8, .int i_9, .int i_10, .ref a_6, .ref a_7, .ref a_8, .ref a_9, .ref a_10, .ref a_11, .ref a_12, .ref a_13, .ref a_14, .ref a_15, .ref a_16, .ref a_17, .ref a_18, .int i_11, .int i_12, .int i_13, .int i_14, .int i_15, .int i_16, .ref a_19, .int i_17, .ref a_20])), (a_5, .inl (cy 0, 600, .inl f_0))] H) (hD : va_D A [(a_0, .inr (12, [.int i_1, .ref a_1, .ref a_2, .ref a_3, .ref a_4, .ref a_5, .int i_2, .int n27, .int n28, .int n29, .int n30, .long n31, .int i_7, .int i_8, .int i_9, .int i_10, .ref a_6, .ref a_7, .ref a_8, .ref a_9, .ref a_10, .ref a_11, .ref a_12, .ref a_13, .ref a_14, .ref a_15, .ref a_16, .ref a_17, .ref a_18, .int i_11, .int i_12, .int i_13, .int i_14, .int i_15, .int i_16, .ref a_19, .int i_17, .ref a_20])), (a_5, .inl (cy 0, 600, .inl f_0))]) hS
          obtain ⟨w32, w33, w34, w35, w36, w37, w38⟩ := hw
          replace w35 : (n29 : Int32).toInt ≤ (n27 : Int32).toInt := w35
          replace w36 : (n27 : Int32).toInt ≤ (i_2 : Int32).toInt := w36
          replace w37 : mm_tk n28 n29 n27 := w37
          replace w38 : (i_3 : Int32).toInt ≤ (n29 : Int32).toInt := w38
          refine lv_iload_n hx hb dX12_number_55 rfl (lv_at hl 0 rfl) ?_
          have w39 : (i_5 : Int32).toInt ≤ (n29 : Int32).toInt := (by have := h7; have := w38; omega)
          have w40 : mm_b0 i_7 i_7 := (fun h => h)
          have w41 : mm_nv i_7 i_6 i_4 i_6 := (mm_nv_y q4 (by decide))
          subst hAe
          rw [hQ]
          exact W.iret (v := i_6) hx hb hr (fun t ht hW => ⟨⟨i_6, (n27, n28, n29, n30, n31, i_7, i_8), rfl, ⟨w32, w33, w34, (mm_wk q2 (by decide)), w35, w36, w37, w39, w40, ⟨q24, w25, w41⟩⟩, by rw [ht]; exact hP, hK.warm hW, hD⟩, hS.F ht⟩) hS.2.2 dX12_number_56
        · exact mm_eqN c26.symm mm_k0 mm_k1 (by decide)
    · refine lv_aload_n hx hb dX12_number_17 rfl (lv_at hl 0 rfl) ?_
      refine lv_iconst (v := 1) hx hb dX12_number_18 (by decide) ?_
      refine mm_finv (va_runV (As := [.int 1]) (rest := []) ⟨hx, hb, hml, hown, hts⟩ (M27_X12_fails l G cy H.size a_0 i_1 a_1 a_2 a_3 a_4 a_5 i_2 i_3 i_4 i_5 i_6 j_0 i_7 i_8 i_9 i_10 a_6 a_7 a_8 a_9 a_10 a_11 a_12 a_13 a_14 a_15 a_16 a_17 a_18 i_11 i_12 i_13 i_14 i_15 i_16 a_19 i_17 a_20 h4 (mm_wk q2 (by decide))) (cwV 1 hts (mm_gV mm_w483 mm_w484 mm_w485 mm_w5 mm_w486) rfl rfl rfl hd_X12_fails ⟨by rw [hRf]; exact Nat.le_of_ble_eq_true rfl, by rw [hRl]; exact Nat.le_of_ble_eq_true rfl⟩) (mm_preV hK hZ hS hA hP hD [0] rfl rfl 0 rfl rfl rfl) rfl rfl hl.1 rfl (lv_room (Nat.le_of_ble_eq_true rfl)) dX12_number_19 ⟨by rw [hRc]; exact Nat.le_of_ble_eq_true rfl, by rw [hRs]; exact Nat.le_of_ble_eq_true rfl⟩) hP hD hS hA (fun u : Int32 × Int32 => [(a_0, .inr (12, [.int i_1, .ref a_1, .ref a_2, .ref a_3, .ref a_4, .ref a_5, .int i_2, .int i_3, .int i_4, .int i_5, .int i_6, .long j_0, .int u.1, .int u.2, .int i_9, .int i_10, .ref a_6, .ref a_7, .ref a_8, .ref a_9, .ref a_10, .ref a_11, .ref a_12, .ref a_13, .ref a_14, .ref a_15, .ref a_16, .ref a_17, .ref a_18, .int i_11, .int i_12, .int i_13, .int i_14, .int i_15, .int i_16, .ref a_19, .int i_17, .ref a_20])), (a_5, .inl (cy 0, 600, .inl f_0))]) [0] [1] (n := 2) (fun _ => rfl) (by decide +kernel) (by decide +kernel) rfl (fun _ => rfl) (wr := [(a_5, .inl (cy 0, 600, .inl f_0))]) rfl (fun _ => rfl) (fun _ => rfl) ?_
      clear hP hD hS
      clear H locs
      intro u
      obtain ⟨n42, n43⟩ := u
      intro H locs hw (hP : va_P G vwCl [(a_0, .inr (12, [.int i_1, .ref a_1, .ref a_2, .ref a_3, .ref a_4, .ref a_5, .int i_2, .int i_3, .int i_4, .int i_5, .int i_6, .long j_0, .int n42, .int n43, .int i_9, .int i_10, .ref a_6, .ref a_7, .ref a_8, .ref a_9, .ref a_10, .ref a_11, .ref a_12, .ref a_13, .ref a_14, .ref a_15, .ref a_16, .ref a_17, .ref a_18, .int i_11, .int i_12, .int i_13, .int i_14, .int i_15, .int i_16, .ref a_19, .int i_17, .ref a_20])), (a_5, .inl (cy 0, 600, .inl f_0))] H) (hD : va_D A [(a_0, .inr (12, [.int i_1, .ref a_1, .ref a_2, .ref a_3, .ref a_4, .ref a_5, .int i_2, .int i_3, .int i_4, .int i_5, .int i_6, .long j_0, .int n42, .int n43, .int i_9, .int i_10, .ref a_6, .ref a_7, .ref a_8, .ref a_9, .ref a_10, .ref a_11, .ref a_12, .ref a_13, .ref a_14, .ref a_15, .ref a_16, .ref a_17, .ref a_18, .int i_11, .int i_12, .int i_13, .int i_14, .int i_15, .int i_16, .ref a_19, .int i_17, .ref a_20])), (a_5, .inl (cy 0, 600, .inl f_0))]) hS
      have w44 := hw
      refine lv_iload_n hx hb dX12_number_22 rfl (lv_at hl 1 rfl) ?_
      have w45 : (i_5 : Int32).toInt ≤ (i_5 : Int32).toInt := (Int.le_refl _)
      have w46 : mm_b0 i_7 n42 := (mm_b0_n w44 (by decide))
      have w47 : (0 : Int32).toInt ≤ (i_0 : Int32).toInt := (mm_leC mm_k0 h0 (by decide))
      have w48 : mm_nv n42 0 i_4 i_6 := (mm_nv_n w44 (by decide))
      subst hAe
      rw [hQ]
      exact W.iret (v := 0) hx hb hr (fun t ht hW => ⟨⟨0, (i_3, i_4, i_5, i_6, j_0, n42, n43), rfl, ⟨h2, h3, h4, (mm_wk w44 (by decide)), h7, h8, h9, w45, w46, ⟨(mm_wk mm_k0 (by decide)), w47, w48⟩⟩, by rw [ht]; exact hP, hK.warm hW, hD⟩, hS.F ht⟩) hS.2.2 dX12_number_23
  · have q49 := mm_neL (lo := 1) (mm_ne c1) h5 mm_k0 (by decide) (by decide)
    refine lv_iload_n hx hb dX12_number_7 rfl (lv_at hl 1 rfl) ?_
    have w50 : (i_5 : Int32).toInt ≤ (i_5 : Int32).toInt := (Int.le_refl _)
    have w51 : mm_b0 i_7 i_7 := (fun h => h)
    have w52 : (0 : Int32).toInt ≤ (i_0 : Int32).toInt := (mm_leC mm_k0 h0 (by decide))
    have w53 : mm_nv i_7 0 i_4 i_6 := (mm_nv_n q49 (by decide))
    subst hAe
    rw [hQ]
    exact W.iret (v := 0) hx hb hr (fun t ht hW => ⟨⟨0, (i_3, i_4, i_5, i_6, j_0, i_7, i_8), rfl, ⟨h2, h3, h4, (mm_wk q49 (by decide)), h7, h8, h9, w50, w51, ⟨(mm_wk mm_k0 (by decide)), w52, w53⟩⟩, by rw [ht]; exact hP, hK.warm hW, hD⟩, hS.F ht⟩) hS.2.2 dX12_number_8

set_option maxHeartbeats 4000000 in
set_option maxRecDepth 100000 in
theorem M48_X12_wordHere (l : Launch) (G : va_G) (cy : Nat → ClassId) (sz : Nat) (a_0 : Nat) (i_0 : Int32) (a_1 : Nat) (a_2 : Nat) (a_3 : Nat) (a_4 : Nat) (a_5 : Nat) (i_1 : Int32) (i_2 : Int32) (i_3 : Int32) (i_4 : Int32) (i_5 : Int32) (j_0 : Int64) (i_6 : Int32) (i_7 : Int32) (i_8 : Int32) (i_9 : Int32) (a_6 : Nat) (a_7 : Nat) (a_8 : Nat) (a_9 : Nat) (a_10 : Nat) (a_11 : Nat) (a_12 : Nat) (a_13 : Nat) (a_14 : Nat) (a_15 : Nat) (a_16 : Nat) (a_17 : Nat) (a_18 : Nat) (i_10 : Int32) (i_11 : Int32) (i_12 : Int32) (i_13 : Int32) (i_14 : Int32) (i_15 : Int32) (a_19 : Nat) (i_16 : Int32) (a_20 : Nat) (f_0 : Nat → Int32) (i_17 : Int32) (i_18 : Int32) (i_19 : Int32) (i_20 : Int32) (i_21 : Int32) (i_22 : Int32) (i_23 : Int32) (i_24 : Int32) (i_25 : Int32) (i_26 : Int32) (i_27 : Int32) (i_28 : Int32) (i_29 : Int32) (i_30 : Int32) (i_31 : Int32) (i_32 : Int32) (i_33 : Int32) (i_34 : Int32) (i_35 : Int32) (i_36 : Int32) (i_37 : Int32) (i_38 : Int32) (i_39 : Int32) (i_40 : Int32) (i_41 : Int32) (i_42 : Int32) (i_43 : Int32) (i_44 : Int32) (i_45 : Int32) (i_46 : Int32) (h0 : mm_rg i_1 0 600) (h1 : mm_rg i_2 0 600) (h2 : mm_rg i_3 0 4) (h3 : mm_rg i_4 0 600) (h4 : mm_rg i_6 0 3) (h5 : mm_ar f_0 (-128) 127) (h6 : mm_rg i_17 0 10) (h7 : mm_rg i_18 0 99) (h8 : mm_rg i_19 0 9) (h9 : mm_rg i_20 0 3) (h10 : mm_rg i_21 0 6) (h11 : mm_rg i_22 0 30) (h12 : mm_rg i_23 0 10) (h13 : mm_rg i_24 0 99) (h14 : mm_rg i_25 0 9) (h15 : mm_rg i_26 0 3) (h16 : mm_rg i_27 0 6) (h17 : mm_rg i_28 0 30) (h18 : mm_rg i_29 0 10) (h19 : mm_rg i_30 0 99) (h20 : mm_rg i_31 0 9) (h21 : mm_rg i_32 0 3) (h22 : mm_rg i_33 0 6) (h23 : mm_rg i_34 0 30) (h24 : mm_rg i_35 0 10) (h25 : mm_rg i_36 0 99) (h26 : mm_rg i_37 0 9) (h27 : mm_rg i_38 0 3) (h28 : mm_rg i_39 0 6) (h29 : mm_rg i_40 0 30) (h30 : mm_rg i_41 0 10) (h31 : mm_rg i_42 0 99) (h32 : mm_rg i_43 0 9) (h33 : mm_rg i_44 0 3) (h34 : mm_rg i_45 0 6) (h35 : mm_rg i_46 0 30) (h36 : (i_4 : Int32).toInt ≤ (i_2 : Int32).toInt) (h37 : (i_2 : Int32).toInt ≤ (i_1 : Int32).toInt) (h38 : mm_tk i_3 i_4 i_2)  : mm_CI l yX12_wordHere (mm_ws yX12_wordHere cX12_wordHere 1 (some .int)) ({ frames := 3, cells := 0, slots := 0, locals := 67 } : Room) G cy sz [(a_0, .inr (12, [.int i_0, .ref a_1, .ref a_2, .ref a_3, .ref a_4, .ref a_5, .int i_1, .int i_2, .int i_3, .int i_4, .int i_5, .long j_0, .int i_6, .int i_7, .int i_8, .int i_9, .ref a_6, .ref a_7, .ref a_8, .ref a_9, .ref a_10, .ref a_11, .ref a_12, .ref a_13, .ref a_14, .ref a_15, .ref a_16, .ref a_17, .ref a_18, .int i_10, .int i_11, .int i_12, .int i_13, .int i_14, .int i_15, .ref a_19, .int i_16, .ref a_20])), (a_5, .inl (cy 0, 600, .inl f_0)), (a_7, .inl (cy 1, 30, .inl (mm_g [i_17, i_18, i_19, i_20, i_21, i_22, i_23, i_24, i_25, i_26, i_27, i_28, i_29, i_30, i_31, i_32, i_33, i_34, i_35, i_36, i_37, i_38, i_39, i_40, i_41, i_42, i_43, i_44, i_45, i_46])))] [.ref a_0] (fun u : Int32 × Int32 × Int32 × Int32 × Int64 × Int32 × Int32 => [(a_0, .inr (12, [.int i_0, .ref a_1, .ref a_2, .ref a_3, .ref a_4, .ref a_5, .int i_1, .int u.1, .int u.2.1, .int u.2.2.1, .int u.2.2.2.1, .long u.2.2.2.2.1, .int u.2.2.2.2.2.1, .int u.2.2.2.2.2.2, .int i_8, .int i_9, .ref a_6, .ref a_7, .ref a_8, .ref a_9, .ref a_10, .ref a_11, .ref a_12, .ref a_13, .ref a_14, .ref a_15, .ref a_16, .ref a_17, .ref a_18, .int i_10, .int i_11, .int i_12, .int i_13, .int i_14, .int i_15, .ref a_19, .int i_16, .ref a_20])), (a_5, .inl (cy 0, 600, .inl f_0)), (a_7, .inl (cy 1, 30, .inl (mm_g [i_17, i_18, i_19, i_20, i_21, i_22, i_23, i_24, i_25, i_26, i_27, i_28, i_29, i_30, i_31, i_32, i_33, i_34, i_35, i_36, i_37, i_38, i_39, i_40, i_41, i_42, i_43, i_44, i_45, i_46])))]) (fun (r : Int32) (u : Int32 × Int32 × Int32 × Int32 × Int64 × Int32 × Int32) => mm_rg u.1 0 600 ∧ mm_rg u.2.1 0 4 ∧ mm_rg u.2.2.1 0 600 ∧ mm_rg u.2.2.2.2.2.1 0 3 ∧ (u.2.2.1 : Int32).toInt ≤ (u.1 : Int32).toInt ∧ (u.1 : Int32).toInt ≤ (i_1 : Int32).toInt ∧ mm_tk u.2.1 u.2.2.1 u.1 ∧ (i_4 : Int32).toInt ≤ (u.2.2.1 : Int32).toInt ∧ mm_b0 i_6 u.2.2.2.2.2.1 ∧ mm_rg r 0 9 ∧ (r : Int32).toInt ≤ (i_43 : Int32).toInt ∧ mm_nv u.2.2.2.2.2.1 r i_3 i_5) 0 0 := by
  refine mm_begin (lv := [(0, .ref a_0)]) (by decide) (Nat.le_of_ble_eq_true rfl) rfl ?_
  intro p e s m below meth c A ls R args Q H locs hRe hQ hAe hx hb hr hlocks hml hown hnm hts hsz hA hS hP hK hD hZ hl
  have hRf : R.frames = 3 := by rw [hRe]
  have hRl : R.locals = 67 := by rw [hRe]
  have hRc : R.cells = 0 := by rw [hRe]
  have hRs : R.slots = 0 := by rw [hRe]
  refine lv_aload_n hx hb dX12_wordHere_0 rfl (lv_at hl 0 rfl) ?_
  refine lv_iconst (v := 0) hx hb dX12_wordHere_1 (by decide) ?_
  refine lv_aload_n hx hb dX12_wordHere_2 rfl (lv_at hl 0 rfl) ?_
  refine lv_iconst (v := 2) hx hb dX12_wordHere_3 (by decide) ?_
  refine mm_finir (va_runV (As := [.int 2]) (rest := [.int 0, .ref a_0]) ⟨hx, hb, hml, hown, hts⟩ (M37_X12_hasRead l G cy H.size a_0 i_0 a_1 a_2 a_3 a_4 a_5 i_1 i_2 i_3 i_4 i_5 j_0 i_6 i_7 i_8 i_9 a_6 a_7 a_8 a_9 a_10 a_11 a_12 a_13 a_14 a_15 a_16 a_17 a_18 i_10 i_11 i_12 i_13 i_14 i_15 a_19 i_16 a_20 i_17 i_18 i_19 i_20 i_21 i_22 i_23 i_24 i_25 i_26 i_27 i_28 i_29 i_30 i_31 i_32 i_33 i_34 i_35 i_36 i_37 i_38 i_39 i_40 i_41 i_42 i_43 i_44 i_45 i_46 h6 h7 h8 h9 h10 h11 h12 h13 h14 h15 h16 h17 h18 h19 h20 h21 h22 h23 h24 h25 h26 h27 h28 h29 h30 h31 h32 h33 h34 h35) (cwV 1 hts (mm_gV mm_w503 mm_w504 mm_w505 mm_w5 mm_w506) rfl rfl rfl hd_X12_hasRead ⟨by rw [hRf]; exact Nat.le_of_ble_eq_true rfl, by rw [hRl]; exact Nat.le_of_ble_eq_true rfl⟩) (mm_preV hK hZ hS hA hP hD [0, 2] rfl rfl 0 rfl rfl rfl) rfl rfl hl.1 rfl (lv_room (Nat.le_of_ble_eq_true rfl)) dX12_wordHere_4 ⟨by rw [hRc]; exact Nat.le_of_ble_eq_true rfl, by rw [hRs]; exact Nat.le_of_ble_eq_true rfl⟩) hP hD hS hA [0, 2] rfl (fun _ => rfl) ?_
  clear hP hD hS
  clear H locs
  intro v1 _u H locs hw hP hD hS
  subst hw
  refine mm_fini (va_runV (As := [.int 0, .int i_43]) (rest := []) ⟨hx, hb, hml, hown, hts⟩ (M47_X12_number l G cy H.size a_0 i_43 i_0 a_1 a_2 a_3 a_4 a_5 i_1 i_2 i_3 i_4 i_5 j_0 i_6 i_7 i_8 i_9 a_6 a_7 a_8 a_9 a_10 a_11 a_12 a_13 a_14 a_15 a_16 a_17 a_18 i_10 i_11 i_12 i_13 i_14 i_15 a_19 i_16 a_20 f_0 h32 h0 h1 h2 h3 h4 h5 h36 h37 h38) (cwV 2 hts (mm_gV mm_w491 mm_w492 mm_w493 mm_w5 mm_w494) rfl rfl rfl hd_X12_number ⟨by rw [hRf]; exact Nat.le_of_ble_eq_true rfl, by rw [hRl]; exact Nat.le_of_ble_eq_true rfl⟩) (mm_preV hK hZ hS hA hP hD [0, 1] rfl rfl 0 rfl rfl rfl) rfl rfl hl.1 rfl (lv_room (Nat.le_of_ble_eq_true rfl)) dX12_wordHere_7 ⟨by rw [hRc]; exact Nat.le_of_ble_eq_true rfl, by rw [hRs]; exact Nat.le_of_ble_eq_true rfl⟩) hP hD hS hA (fun u : Int32 × Int32 × Int32 × Int32 × Int64 × Int32 × Int32 => [(a_0, .inr (12, [.int i_0, .ref a_1, .ref a_2, .ref a_3, .ref a_4, .ref a_5, .int i_1, .int u.1, .int u.2.1, .int u.2.2.1, .int u.2.2.2.1, .long u.2.2.2.2.1, .int u.2.2.2.2.2.1, .int u.2.2.2.2.2.2, .int i_8, .int i_9, .ref a_6, .ref a_7, .ref a_8, .ref a_9, .ref a_10, .ref a_11, .ref a_12, .ref a_13, .ref a_14, .ref a_15, .ref a_16, .ref a_17, .ref a_18, .int i_10, .int i_11, .int i_12, .int i_13, .int i_14, .int i_15, .ref a_19, .int i_16, .ref a_20])), (a_5, .inl (cy 0, 600, .inl f_0)), (a_7, .inl (cy 1, 30, .inl (mm_g [i_17, i_18, i_19, i_20, i_21, i_22, i_23, i_24, i_25, i_26, i_27, i_28, i_29, i_30, i_31, i_32, i_33, i_34, i_35, i_36, i_37, i_38, i_39, i_40, i_41, i_42, i_43, i_44, i_45, i_46])))]) [0, 1] [2] (n := 3) (fun _ => rfl) (by decide +kernel) (by decide +kernel) rfl (fun _ => rfl) (wr := [(a_7, .inl (cy 1, 30, .inl (mm_g [i_17, i_18, i_19, i_20, i_21, i_22, i_23, i_24, i_25, i_26, i_27, i_28, i_29, i_30, i_31, i_32, i_33, i_34, i_35, i_36, i_37, i_38, i_39, i_40, i_41, i_42, i_43, i_44, i_45, i_46])))]) rfl (fun _ => rfl) (fun _ => rfl) ?_
  clear hP hD hS
  clear H locs
  intro v9 u
  obtain ⟨n2, n3, n4, n5, n6, n7, n8⟩ := u
  intro H locs hw (hP : va_P G vwCl [(a_0, .inr (12, [.int i_0, .ref a_1, .ref a_2, .ref a_3, .ref a_4, .ref a_5, .int i_1, .int n2, .int n3, .int n4, .int n5, .long n6, .int n7, .int n8, .int i_8, .int i_9, .ref a_6, .ref a_7, .ref a_8, .ref a_9, .ref a_10, .ref a_11, .ref a_12, .ref a_13, .ref a_14, .ref a_15, .ref a_16, .ref a_17, .ref a_18, .int i_10, .int i_11, .int i_12, .int i_13, .int i_14, .int i_15, .ref a_19, .int i_16, .ref a_20])), (a_5, .inl (cy 0, 600, .inl f_0)), (a_7, .inl (cy 1, 30, .inl (mm_g [i_17, i_18, i_19, i_20, i_21, i_22, i_23, i_24, i_25, i_26, i_27, i_28, i_29, i_30, i_31, i_32, i_33, i_34, i_35, i_36, i_37, i_38, i_39, i_40, i_41, i_42, i_43, i_44, i_45, i_46])))] H) (hD : va_D A [(a_0, .inr (12, [.int i_0, .ref a_1, .ref a_2, .ref a_3, .ref a_4, .ref a_5, .int i_1, .int n2, .int n3, .int n4, .int n5, .long n6, .int n7, .int n8, .int i_8, .int i_9, .ref a_6, .ref a_7, .ref a_8, .ref a_9, .ref a_10, .ref a_11, .ref a_12, .ref a_13, .ref a_14, .ref a_15, .ref a_16, .ref a_17, .ref a_18, .int i_10, .int i_11, .int i_12, .int i_13, .int i_14, .int i_15, .ref a_19, .int i_16, .ref a_20])), (a_5, .inl (cy 0, 600, .inl f_0)), (a_7, .inl (cy 1, 30, .inl (mm_g [i_17, i_18, i_19, i_20, i_21, i_22, i_23, i_24, i_25, i_26, i_27, i_28, i_29, i_30, i_31, i_32, i_33, i_34, i_35, i_36, i_37, i_38, i_39, i_40, i_41, i_42, i_43, i_44, i_45, i_46])))]) hS
  obtain ⟨w10, w11, w12, w13, w14, w15, w16, w17, w18, hw⟩ := hw
  replace w14 : (n4 : Int32).toInt ≤ (n2 : Int32).toInt := w14
  replace w15 : (n2 : Int32).toInt ≤ (i_1 : Int32).toInt := w15
  replace w16 : mm_tk n3 n4 n2 := w16
  replace w17 : (i_4 : Int32).toInt ≤ (n4 : Int32).toInt := w17
  replace w18 : mm_b0 i_6 n7 := w18
  obtain ⟨w19, w20, w21⟩ := hw
  replace w20 : (v9 : Int32).toInt ≤ (i_43 : Int32).toInt := w20
  replace w21 : mm_nv n7 v9 i_3 i_5 := w21
  subst hAe
  rw [hQ]
  exact W.iret (v := v9) hx hb hr (fun t ht hW => ⟨⟨v9, (n2, n3, n4, n5, n6, n7, n8), rfl, ⟨w10, w11, w12, w13, w14, w15, w16, w17, w18, ⟨w19, w20, w21⟩⟩, by rw [ht]; exact hP, hK.warm hW, hD⟩, hS.F ht⟩) hS.2.2 dX12_wordHere_10

set_option maxHeartbeats 4000000 in
set_option maxRecDepth 100000 in
theorem M49_X12_number (l : Launch) (G : va_G) (cy : Nat → ClassId) (sz : Nat) (a_0 : Nat) (i_0 : Int32) (i_1 : Int32) (a_1 : Nat) (a_2 : Nat) (a_3 : Nat) (a_4 : Nat) (a_5 : Nat) (i_2 : Int32) (i_3 : Int32) (i_4 : Int32) (i_5 : Int32) (i_6 : Int32) (j_0 : Int64) (i_7 : Int32) (i_8 : Int32) (i_9 : Int32) (i_10 : Int32) (a_6 : Nat) (a_7 : Nat) (a_8 : Nat) (a_9 : Nat) (a_10 : Nat) (a_11 : Nat) (a_12 : Nat) (a_13 : Nat) (a_14 : Nat) (a_15 : Nat) (a_16 : Nat) (a_17 : Nat) (a_18 : Nat) (i_11 : Int32) (i_12 : Int32) (i_13 : Int32) (i_14 : Int32) (i_15 : Int32) (i_16 : Int32) (a_19 : Nat) (i_17 : Int32) (a_20 : Nat) (f_0 : Nat → Int32) (h0 : mm_rg i_0 0 9) (h1 : mm_rg i_2 0 600) (h2 : mm_rg i_3 0 600) (h3 : mm_rg i_4 0 4) (h4 : mm_rg i_5 0 600) (h5 : mm_rg i_7 0 0) (h6 : mm_ar f_0 (-128) 127) (h7 : (i_5 : Int32).toInt ≤ (i_3 : Int32).toInt) (h8 : (i_3 : Int32).toInt ≤ (i_2 : Int32).toInt) (h9 : mm_tk i_4 i_5 i_3)  : mm_CI l yX12_number (mm_ws yX12_number cX12_number 4 (some .int)) ({ frames := 2, cells := 0, slots := 0, locals := 44 } : Room) G cy sz [(a_0, .inr (12, [.int i_1, .ref a_1, .ref a_2, .ref a_3, .ref a_4, .ref a_5, .int i_2, .int i_3, .int i_4, .int i_5, .int i_6, .long j_0, .int i_7, .int i_8, .int i_9, .int i_10, .ref a_6, .ref a_7, .ref a_8, .ref a_9, .ref a_10, .ref a_11, .ref a_12, .ref a_13, .ref a_14, .ref a_15, .ref a_16, .ref a_17, .ref a_18, .int i_11, .int i_12, .int i_13, .int i_14, .int i_15, .int i_16, .ref a_19, .int i_17, .ref a_20])), (a_5, .inl (cy 0, 600, .inl f_0))] [.ref a_0, .int 0, .int i_0] (fun u : Int32 × Int32 × Int32 × Int32 × Int64 × Int32 × Int32 => [(a_0, .inr (12, [.int i_1, .ref a_1, .ref a_2, .ref a_3, .ref a_4, .ref a_5, .int i_2, .int u.1, .int u.2.1, .int u.2.2.1, .int u.2.2.2.1, .long u.2.2.2.2.1, .int u.2.2.2.2.2.1, .int u.2.2.2.2.2.2, .int i_9, .int i_10, .ref a_6, .ref a_7, .ref a_8, .ref a_9, .ref a_10, .ref a_11, .ref a_12, .ref a_13, .ref a_14, .ref a_15, .ref a_16, .ref a_17, .ref a_18, .int i_11, .int i_12, .int i_13, .int i_14, .int i_15, .int i_16, .ref a_19, .int i_17, .ref a_20])), (a_5, .inl (cy 0, 600, .inl f_0))]) (fun (r : Int32) (u : Int32 × Int32 × Int32 × Int32 × Int64 × Int32 × Int32) => mm_rg u.1 0 600 ∧ mm_rg u.2.1 0 4 ∧ mm_rg u.2.2.1 0 600 ∧ mm_rg u.2.2.2.2.2.1 0 3 ∧ (u.2.2.1 : Int32).toInt ≤ (u.1 : Int32).toInt ∧ (u.1 : Int32).toInt ≤ (i_2 : Int32).toInt ∧ mm_tk u.2.1 u.2.2.1 u.1 ∧ (i_5 : Int32).toInt ≤ (u.2.2.1 : Int32).toInt ∧ mm_b0 i_7 u.2.2.2.2.2.1 ∧ mm_rg r 0 9 ∧ (r : Int32).toInt ≤ (i_0 : Int32).toInt ∧ mm_nv u.2.2.2.2.2.1 r i_4 i_6) 0 0 := by
  refine mm_begin (lv := [(0, .ref a_0), (1, .int 0), (2, .int i_0)]) (by decide) (Nat.le_of_ble_eq_true rfl) rfl ?_
  intro p e s m below meth c A ls R args Q H locs hRe hQ hAe hx hb hr hlocks hml hown hnm hts hsz hA hS hP hK hD hZ hl
  have hRf : R.frames = 2 := by rw [hRe]
  have hRl : R.locals = 44 := by rw [hRe]
  have hRc : R.cells = 0 := by rw [hRe]
  have hRs : R.slots = 0 := by rw [hRe]
  refine lv_aload_n hx hb dX12_number_0 rfl (lv_at hl 0 rfl) ?_
  refine va_get (D := G) (ci := 12) (v := .int i_7) (C := RX12) (T := TX12) (N := 38) hx hb hts (mm_i inlX12) hown hK.1 hP 0 rfl rfl 12 (by decide) (mm_h hts mm_w436) (fun _ h9 => h9) rfl dX12_number_1 ?_
  refine lv_if_eq (tgt := 9) hx hb dX12_number_4 (by decide) (fun c1 => ?_) (fun c1 => ?_)
  · refine lv_aload_n hx hb dX12_number_9 rfl (lv_at hl 0 rfl) ?_
    refine va_get (D := G) (ci := 12) (v := .int i_4) (C := RX12) (T := TX12) (N := 38) hx hb hts (mm_i inlX12) hown hK.1 hP 0 rfl rfl 8 (by decide) (mm_h hts mm_w432) (fun _ h9 => h9) rfl dX12_number_10 ?_
    refine lv_iconst (v := 2) hx hb dX12_number_13 (by decide) ?_
    refine lv_icmp_eq (tgt := 24) hx hb dX12_number_14 (by decide) (fun c2 => ?_) (fun c2 => ?_)
    · have q3 := mm_eqI (lo := 2) (hi := 2) c2 h3 mm_k2 (by decide)
      refine lv_aload_n hx hb dX12_number_24 rfl (lv_at hl 0 rfl) ?_
      refine va_get (D := G) (ci := 12) (v := .int i_6) (C := RX12) (T := TX12) (N := 38) hx hb hts (mm_i inlX12) hown hK.1 hP 0 rfl rfl 10 (by decide) (mm_h hts mm_w456) (fun _ h9 => h9) rfl dX12_number_25 ?_
      obtain ⟨v4, ev4⟩ : ∃ y : Int64, y = i_6.toInt64 := ⟨_, rfl⟩
      refine lv_i2l hx hb dX12_number_28 ev4.symm ?_
      have rv4 : mm_rl v4 (-2147483648) 2147483647 := mm_i2l ev4 (mm_top i_6)
      refine lv_iload_n hx hb dX12_number_29 rfl (lv_at hl 1 rfl) ?_
      refine lv_i2l (v := 0) hx hb dX12_number_30 (by decide) ?_
      refine lv_iload_n hx hb dX12_number_31 rfl (lv_at hl 2 rfl) ?_
      obtain ⟨v5, ev5⟩ : ∃ y : Int64, y = i_0.toInt64 := ⟨_, rfl⟩
      refine lv_i2l hx hb dX12_number_32 ev5.symm ?_
      have rv5 : mm_rl v5 0 9 := mm_i2l ev5 h0
      refine mm_finir (va_runS (As := [.long v4, .long 0, .long v5]) (rest := []) ⟨hx, hb, hml, hown, hts⟩ (M7_X12_in l G cy H.size v4 v5 ) (va_cwS 3 hts (mm_gS mm_w191 mm_w192 mm_w5 mm_w193) rfl rfl rfl hs_X12_in ⟨by rw [hRf]; exact Nat.le_of_ble_eq_true rfl, by rw [hRl]; exact Nat.le_of_ble_eq_true rfl⟩) (mm_preS hK hZ hS hA hP hD [] rfl rfl) rfl rfl hl.1 rfl (lv_room (Nat.le_of_ble_eq_true rfl)) dX12_number_33 ⟨by rw [hRc]; exact Nat.le_of_ble_eq_true rfl, by rw [hRs]; exact Nat.le_of_ble_eq_true rfl⟩) hP hD hS hA [] rfl (fun _ => rfl) ?_
      clear hP hD hS
      clear H locs
      intro v6 _u H locs hw hP hD hS
      rcases hw with ⟨rfl, w7⟩ | ⟨rfl, w8, w9, w10, w11⟩
      · refine lv_if_ne (tgt := 46) hx hb dX12_number_36 (by decide) (fun c12 => ?_) (fun c12 => ?_)
        · exact absurd rfl (mm_ne c12)
        · refine lv_aload_n hx hb dX12_number_39 rfl (lv_at hl 0 rfl) ?_
          refine lv_iconst (v := 2) hx hb dX12_number_40 (by decide) ?_
          refine mm_finv (va_runV (As := [.int 2]) (rest := []) ⟨hx, hb, hml, hown, hts⟩ (M29_X12_fails l G cy H.size a_0 i_1 a_1 a_2 a_3 a_4 a_5 i_2 i_3 i_4 i_5 i_6 j_0 i_7 i_8 i_9 i_10 a_6 a_7 a_8 a_9 a_10 a_11 a_12 a_13 a_14 a_15 a_16 a_17 a_18 i_11 i_12 i_13 i_14 i_15 i_16 a_19 i_17 a_20 h4 (mm_wk h5 (by decide))) (cwV 1 hts (mm_gV mm_w483 mm_w484 mm_w485 mm_w5 mm_w486) rfl rfl rfl hd_X12_fails ⟨by rw [hRf]; exact Nat.le_of_ble_eq_true rfl, by rw [hRl]; exact Nat.le_of_ble_eq_true rfl⟩) (mm_preV hK hZ hS hA hP hD [0] rfl rfl 0 rfl rfl rfl) rfl rfl hl.1 rfl (lv_room (Nat.le_of_ble_eq_true rfl)) dX12_number_41 ⟨by rw [hRc]; exact Nat.le_of_ble_eq_true rfl, by rw [hRs]; exact Nat.le_of_ble_eq_true rfl⟩) hP hD hS hA (fun u : Int32 × Int32 => [(a_0, .inr (12, [.int i_1, .ref a_1, .ref a_2, .ref a_3, .ref a_4, .ref a_5, .int i_2, .int i_3, .int i_4, .int i_5, .int i_6, .long j_0, .int u.1, .int u.2, .int i_9, .int i_10, .ref a_6, .ref a_7, .ref a_8, .ref a_9, .ref a_10, .ref a_11, .ref a_12, .ref a_13, .ref a_14, .ref a_15, .ref a_16, .ref a_17, .ref a_18, .int i_11, .int i_12, .int i_13, .int i_14, .int i_15, .int i_16, .ref a_19, .int i_17, .ref a_20])), (a_5, .inl (cy 0, 600, .inl f_0))]) [0] [1] (n := 2) (fun _ => rfl) (by decide +kernel) (by decide +kernel) rfl (fun _ => rfl) (wr := [(a_5, .inl (cy 0, 600, .inl f_0))]) rfl (fun _ => rfl) (fun _ => rfl) ?_
          clear hP hD hS
          clear H locs
          intro u
          obtain ⟨n13, n14⟩ := u
          intro H locs hw (hP : va_P G vwCl [(a_0, .inr (12, [.int i_1, .ref a_1, .ref a_2, .ref a_3, .ref a_4, .ref a_5, .int i_2, .int i_3, .int i_4, .int i_5, .int i_6, .long j_0, .int n13, .int n14, .int i_9, .int i_10, .ref a_6, .ref a_7, .ref a_8, .ref a_9, .ref a_10, .ref a_11, .ref a_12, .ref a_13, .ref a_14, .ref a_15, .ref a_16, .ref a_17, .ref a_18, .int i_11, .int i_12, .int i_13, .int i_14, .int i_15, .int i_16, .ref a_19, .int i_17, .ref a_20])), (a_5, .inl (cy 0, 600, .inl f_0))] H) (hD : va_D A [(a_0, .inr (12, [.int i_1, .ref a_1, .ref a_2, .ref a_3, .ref a_4, .ref a_5, .int i_2, .int i_3, .int i_4, .int i_5, .int i_6, .long j_0, .int n13, .int n14, .int i_9, .int i_10, .ref a_6, .ref a_7, .ref a_8, .ref a_9, .ref a_10, .ref a_11, .ref a_12, .ref a_13, .ref a_14, .ref a_15, .ref a_16, .ref a_17, .ref a_18, .int i_11, .int i_12, .int i_13, .int i_14, .int i_15, .int i_16, .ref a_19, .int i_17, .ref a_20])), (a_5, .inl (cy 0, 600, .inl f_0))]) hS
          have w15 := hw
          refine lv_iload_n hx hb dX12_number_44 rfl (lv_at hl 1 rfl) ?_
          have w16 : (i_5 : Int32).toInt ≤ (i_5 : Int32).toInt := (Int.le_refl _)
          have w17 : mm_b0 i_7 n13 := (mm_b0_n w15 (by decide))
          have w18 : (0 : Int32).toInt ≤ (i_0 : Int32).toInt := (mm_leC mm_k0 h0 (by decide))
          have w19 : mm_nv n13 0 i_4 i_6 := (mm_nv_n w15 (by decide))
          subst hAe
          rw [hQ]
          exact W.iret (v := 0) hx hb hr (fun t ht hW => ⟨⟨0, (i_3, i_4, i_5, i_6, j_0, n13, n14), rfl, ⟨h2, (mm_wk q3 (by decide)), h4, (mm_wk w15 (by decide)), h7, h8, h9, w16, w17, ⟨(mm_wk mm_k0 (by decide)), w18, w19⟩⟩, by rw [ht]; exact hP, hK.warm hW, hD⟩, hS.F ht⟩) hS.2.2 dX12_number_45
      · have q20 := mm_meetl (lo := 0) (hi := 2147483647) w8 rv4 (by decide)
        have q21 := mm_meet (lo := 0) (hi := 2147483647) (mm_l2x ev4 q20) (mm_top i_6) (by decide)
        have q22 := mm_leLl w10 q20 rv5
        have q23 := mm_meet (lo := 0) (hi := 9) (mm_l2x ev4 q22) q21 (by decide)
        have w24 : (i_6 : Int32).toInt ≤ (i_0 : Int32).toInt := by have := (mm_i2lE ev4); have := (mm_i2lE ev5); have := w10; omega
        refine lv_if_ne (tgt := 46) hx hb dX12_number_36 (by decide) (fun c25 => ?_) (fun c25 => ?_)
        · refine lv_aload_n hx hb dX12_number_46 rfl (lv_at hl 0 rfl) ?_
          refine va_get (D := G) (ci := 12) (v := .int i_6) (C := RX12) (T := TX12) (N := 38) hx hb hts (mm_i inlX12) hown hK.1 hP 0 rfl rfl 10 (by decide) (mm_h hts mm_w456) (fun _ h9 => h9) rfl dX12_number_47 ?_
          refine lv_istore_n (lv' := [(3, .int i_6), (0, .ref a_0), (1, .int 0), (2, .int i_0)]) hx hb dX12_number_50 rfl hl (by decide) rfl ?_
          clear hl
          clear ls
          intro ls hl
          refine lv_aload_n hx hb dX12_number_51 rfl (lv_at hl 1 rfl) ?_
          refine mm_finv (va_runV (As := []) (rest := []) ⟨hx, hb, hml, hown, hts⟩ (M22_X12_next l G cy H.size a_0 i_1 a_1 a_2 a_3 a_4 a_5 i_2 i_3 i_4 i_5 i_6 j_0 i_7 i_8 i_9 i_10 a_6 a_7 a_8 a_9 a_10 a_11 a_12 a_13 a_14 a_15 a_16 a_17 a_18 i_11 i_12 i_13 i_14 i_15 i_16 a_19 i_17 a_20 f_0 h1 h2 (mm_wk q3 (by decide)) h4 h6 h8) (cwV 0 hts (mm_gV mm_w451 mm_w452 mm_w453 mm_w5 mm_w454) rfl rfl rfl hd_X12_next ⟨by rw [hRf]; exact Nat.le_of_ble_eq_true rfl, by rw [hRl]; exact Nat.le_of_ble_eq_true rfl⟩) (mm_preV hK hZ hS hA hP hD [0, 1] rfl rfl 0 rfl rfl rfl) rfl rfl hl.1 rfl (lv_room (Nat.le_of_ble_eq_true rfl)) dX12_number_52 ⟨by rw [hRc]; exact Nat.le_of_ble_eq_true rfl, by rw [hRs]; exact Nat.le_of_ble_eq_true rfl⟩) hP hD hS hA (fun u : Int32 × Int32 × Int32 × Int32 × Int64 => [(a_0, .inr (12, [.int i_1, .ref a_1, .ref a_2, .ref a_3, .ref a_4, .ref a_5, .int i_2, .int u.1, .int u.2.1, .int u.2.2.1, .int u.2.2.2.1, .long u.2.2.2.2, .int i_7, .int i_8, .int i_9, .int i_10, .ref a_6, .ref a_7, .ref a_8, .ref a_9, .ref a_10, .ref a_11, .ref a_12, .ref a_13, .ref a_14, .ref a_15, .ref a_16, .ref a_17, .ref a_18, .int i_11, .int i_12, .int i_13, .int i_14, .int i_15, .int i_16, .ref a_19, .int i_17, .ref a_20])), (a_5, .inl (cy 0, 600, .inl f_0))]) [0, 1] [] (n := 2) (fun _ => rfl) (by decide +kernel) (by decide +kernel) rfl (fun _ => rfl) (wr := []) rfl (fun _ => rfl) (fun _ => rfl) ?_
          clear hP hD hS
          clear H locs
          intro u
          obtain ⟨n26, n27, n28, n29, n30⟩ := u
          intro H locs hw (hP : va_P G vwCl [(a_0, .inr (12, [.int i_1, .ref a_1, .ref a_2, .ref a_3, .ref a_4, .ref a_5, .int i_2, .int n26, .int n27, .int n28, .int n29, .long n30, .int i_7, .int i_8, .int i_9, .int i_10, .ref a_6, .ref a_7, .ref a_8, .ref a_9, .ref a_10, .ref a_11, .ref a_12, .ref a_13, .ref a_14, .ref a_15, .ref a_16, .ref a_17, .ref a_18, .int i_11, .int i_12, .int i_13, .int i_14, .int i_15, .int i_16, .ref a_19, .int i_17, .ref a_20])), (a_5, .inl (cy 0, 600, .inl f_0))] H) (hD : va_D A [(a_0, .inr (12, [.int i_1, .ref a_1, .ref a_2, .ref a_3, .ref a_4, .ref a_5, .int i_2, .int n26, .int n27, .int n28, .int n29, .long n30, .int i_7, .int i_8, .int i_9, .int i_10, .ref a_6, .ref a_7, .ref a_8, .ref a_9, .ref a_10, .ref a_11, .ref a_12, .ref a_13, .ref a_14, .ref a_15, .ref a_16, .ref a_17, .ref a_18, .int i_11, .int i_12, .int i_13, .int i_14, .int i_15, .int i_16, .ref a_19, .int i_17, .ref a_20])), (a_5, .inl (cy 0, 600, .inl f_0))]) hS
          obtain ⟨w31, w32, w33, w34, w35, w36, w37⟩ := hw
          replace w34 : (n28 : Int32).toInt ≤ (n26 : Int32).toInt := w34
          replace w35 : (n26 : Int32).toInt ≤ (i_2 : Int32).toInt := w35
          replace w36 : mm_tk n27 n28 n26 := w36
          replace w37 : (i_3 : Int32).toInt ≤ (n28 : Int32).toInt := w37
          refine lv_iload_n hx hb dX12_number_55 rfl (lv_at hl 0 rfl) ?_
          have w38 : (i_5 : Int32).toInt ≤ (n28 : Int32).toInt := (by have := h7; have := w37; omega)
          have w39 : mm_b0 i_7 i_7 := (fun h => h)
          have w40 : mm_nv i_7 i_6 i_4 i_6 := (mm_nv_y q3 (by decide))
          subst hAe
          rw [hQ]
          exact W.iret (v := i_6) hx hb hr (fun t ht hW => ⟨⟨i_6, (n26, n27, n28, n29, n30, i_7, i_8), rfl, ⟨w31, w32, w33, (mm_wk h5 (by decide)), w34, w35, w36, w38, w39, ⟨q23, w24, w40⟩⟩, by rw [ht]; exact hP, hK.warm hW, hD⟩, hS.F ht⟩) hS.2.2 dX12_number_56
        · exact mm_eqN c25.symm mm_k0 mm_k1 (by decide)
    · refine lv_aload_n hx hb dX12_number_17 rfl (lv_at hl 0 rfl) ?_
      refine lv_iconst (v := 1) hx hb dX12_number_18 (by decide) ?_
      refine mm_finv (va_runV (As := [.int 1]) (rest := []) ⟨hx, hb, hml, hown, hts⟩ (M27_X12_fails l G cy H.size a_0 i_1 a_1 a_2 a_3 a_4 a_5 i_2 i_3 i_4 i_5 i_6 j_0 i_7 i_8 i_9 i_10 a_6 a_7 a_8 a_9 a_10 a_11 a_12 a_13 a_14 a_15 a_16 a_17 a_18 i_11 i_12 i_13 i_14 i_15 i_16 a_19 i_17 a_20 h4 (mm_wk h5 (by decide))) (cwV 1 hts (mm_gV mm_w483 mm_w484 mm_w485 mm_w5 mm_w486) rfl rfl rfl hd_X12_fails ⟨by rw [hRf]; exact Nat.le_of_ble_eq_true rfl, by rw [hRl]; exact Nat.le_of_ble_eq_true rfl⟩) (mm_preV hK hZ hS hA hP hD [0] rfl rfl 0 rfl rfl rfl) rfl rfl hl.1 rfl (lv_room (Nat.le_of_ble_eq_true rfl)) dX12_number_19 ⟨by rw [hRc]; exact Nat.le_of_ble_eq_true rfl, by rw [hRs]; exact Nat.le_of_ble_eq_true rfl⟩) hP hD hS hA (fun u : Int32 × Int32 => [(a_0, .inr (12, [.int i_1, .ref a_1, .ref a_2, .ref a_3, .ref a_4, .ref a_5, .int i_2, .int i_3, .int i_4, .int i_5, .int i_6, .long j_0, .int u.1, .int u.2, .int i_9, .int i_10, .ref a_6, .ref a_7, .ref a_8, .ref a_9, .ref a_10, .ref a_11, .ref a_12, .ref a_13, .ref a_14, .ref a_15, .ref a_16, .ref a_17, .ref a_18, .int i_11, .int i_12, .int i_13, .int i_14, .int i_15, .int i_16, .ref a_19, .int i_17, .ref a_20])), (a_5, .inl (cy 0, 600, .inl f_0))]) [0] [1] (n := 2) (fun _ => rfl) (by decide +kernel) (by decide +kernel) rfl (fun _ => rfl) (wr := [(a_5, .inl (cy 0, 600, .inl f_0))]) rfl (fun _ => rfl) (fun _ => rfl) ?_
      clear hP hD hS
      clear H locs
      intro u
      obtain ⟨n41, n42⟩ := u
      intro H locs hw (hP : va_P G vwCl [(a_0, .inr (12, [.int i_1, .ref a_1, .ref a_2, .ref a_3, .ref a_4, .ref a_5, .int i_2, .int i_3, .int i_4, .int i_5, .int i_6, .long j_0, .int n41, .int n42, .int i_9, .int i_10, .ref a_6, .ref a_7, .ref a_8, .ref a_9, .ref a_10, .ref a_11, .ref a_12, .ref a_13, .ref a_14, .ref a_15, .ref a_16, .ref a_17, .ref a_18, .int i_11, .int i_12, .int i_13, .int i_14, .int i_15, .int i_16, .ref a_19, .int i_17, .ref a_20])), (a_5, .inl (cy 0, 600, .inl f_0))] H) (hD : va_D A [(a_0, .inr (12, [.int i_1, .ref a_1, .ref a_2, .ref a_3, .ref a_4, .ref a_5, .int i_2, .int i_3, .int i_4, .int i_5, .int i_6, .long j_0, .int n41, .int n42, .int i_9, .int i_10, .ref a_6, .ref a_7, .ref a_8, .ref a_9, .ref a_10, .ref a_11, .ref a_12, .ref a_13, .ref a_14, .ref a_15, .ref a_16, .ref a_17, .ref a_18, .int i_11, .int i_12, .int i_13, .int i_14, .int i_15, .int i_16, .ref a_19, .int i_17, .ref a_20])), (a_5, .inl (cy 0, 600, .inl f_0))]) hS
      have w43 := hw
      refine lv_iload_n hx hb dX12_number_22 rfl (lv_at hl 1 rfl) ?_
      have w44 : (i_5 : Int32).toInt ≤ (i_5 : Int32).toInt := (Int.le_refl _)
      have w45 : mm_b0 i_7 n41 := (mm_b0_n w43 (by decide))
      have w46 : (0 : Int32).toInt ≤ (i_0 : Int32).toInt := (mm_leC mm_k0 h0 (by decide))
      have w47 : mm_nv n41 0 i_4 i_6 := (mm_nv_n w43 (by decide))
      subst hAe
      rw [hQ]
      exact W.iret (v := 0) hx hb hr (fun t ht hW => ⟨⟨0, (i_3, i_4, i_5, i_6, j_0, n41, n42), rfl, ⟨h2, h3, h4, (mm_wk w43 (by decide)), h7, h8, h9, w44, w45, ⟨(mm_wk mm_k0 (by decide)), w46, w47⟩⟩, by rw [ht]; exact hP, hK.warm hW, hD⟩, hS.F ht⟩) hS.2.2 dX12_number_23
  · have q48 := mm_neL (lo := 1) (mm_ne c1) h5 mm_k0 (by decide) (by decide)
    exact mm_no q48 (by decide)

set_option maxHeartbeats 4000000 in
set_option maxRecDepth 100000 in
theorem M50_X12_wordHere (l : Launch) (G : va_G) (cy : Nat → ClassId) (sz : Nat) (a_0 : Nat) (i_0 : Int32) (a_1 : Nat) (a_2 : Nat) (a_3 : Nat) (a_4 : Nat) (a_5 : Nat) (i_1 : Int32) (i_2 : Int32) (i_3 : Int32) (i_4 : Int32) (i_5 : Int32) (j_0 : Int64) (i_6 : Int32) (i_7 : Int32) (i_8 : Int32) (i_9 : Int32) (a_6 : Nat) (a_7 : Nat) (a_8 : Nat) (a_9 : Nat) (a_10 : Nat) (a_11 : Nat) (a_12 : Nat) (a_13 : Nat) (a_14 : Nat) (a_15 : Nat) (a_16 : Nat) (a_17 : Nat) (a_18 : Nat) (i_10 : Int32) (i_11 : Int32) (i_12 : Int32) (i_13 : Int32) (i_14 : Int32) (i_15 : Int32) (a_19 : Nat) (i_16 : Int32) (a_20 : Nat) (f_0 : Nat → Int32) (i_17 : Int32) (i_18 : Int32) (i_19 : Int32) (i_20 : Int32) (i_21 : Int32) (i_22 : Int32) (i_23 : Int32) (i_24 : Int32) (i_25 : Int32) (i_26 : Int32) (i_27 : Int32) (i_28 : Int32) (i_29 : Int32) (i_30 : Int32) (i_31 : Int32) (i_32 : Int32) (i_33 : Int32) (i_34 : Int32) (i_35 : Int32) (i_36 : Int32) (i_37 : Int32) (i_38 : Int32) (i_39 : Int32) (i_40 : Int32) (i_41 : Int32) (i_42 : Int32) (i_43 : Int32) (i_44 : Int32) (i_45 : Int32) (i_46 : Int32) (h0 : mm_rg i_1 0 600) (h1 : mm_rg i_2 0 600) (h2 : mm_rg i_3 0 4) (h3 : mm_rg i_4 0 600) (h4 : mm_rg i_6 0 0) (h5 : mm_ar f_0 (-128) 127) (h6 : mm_rg i_17 0 10) (h7 : mm_rg i_18 0 99) (h8 : mm_rg i_19 0 9) (h9 : mm_rg i_20 0 3) (h10 : mm_rg i_21 0 6) (h11 : mm_rg i_22 0 30) (h12 : mm_rg i_23 0 10) (h13 : mm_rg i_24 0 99) (h14 : mm_rg i_25 0 9) (h15 : mm_rg i_26 0 3) (h16 : mm_rg i_27 0 6) (h17 : mm_rg i_28 0 30) (h18 : mm_rg i_29 0 10) (h19 : mm_rg i_30 0 99) (h20 : mm_rg i_31 0 9) (h21 : mm_rg i_32 0 3) (h22 : mm_rg i_33 0 6) (h23 : mm_rg i_34 0 30) (h24 : mm_rg i_35 0 10) (h25 : mm_rg i_36 0 99) (h26 : mm_rg i_37 0 9) (h27 : mm_rg i_38 0 3) (h28 : mm_rg i_39 0 6) (h29 : mm_rg i_40 0 30) (h30 : mm_rg i_41 0 10) (h31 : mm_rg i_42 0 99) (h32 : mm_rg i_43 0 9) (h33 : mm_rg i_44 0 3) (h34 : mm_rg i_45 0 6) (h35 : mm_rg i_46 0 30) (h36 : (i_4 : Int32).toInt ≤ (i_2 : Int32).toInt) (h37 : (i_2 : Int32).toInt ≤ (i_1 : Int32).toInt) (h38 : mm_tk i_3 i_4 i_2)  : mm_CI l yX12_wordHere (mm_ws yX12_wordHere cX12_wordHere 1 (some .int)) ({ frames := 3, cells := 0, slots := 0, locals := 67 } : Room) G cy sz [(a_0, .inr (12, [.int i_0, .ref a_1, .ref a_2, .ref a_3, .ref a_4, .ref a_5, .int i_1, .int i_2, .int i_3, .int i_4, .int i_5, .long j_0, .int i_6, .int i_7, .int i_8, .int i_9, .ref a_6, .ref a_7, .ref a_8, .ref a_9, .ref a_10, .ref a_11, .ref a_12, .ref a_13, .ref a_14, .ref a_15, .ref a_16, .ref a_17, .ref a_18, .int i_10, .int i_11, .int i_12, .int i_13, .int i_14, .int i_15, .ref a_19, .int i_16, .ref a_20])), (a_5, .inl (cy 0, 600, .inl f_0)), (a_7, .inl (cy 1, 30, .inl (mm_g [i_17, i_18, i_19, i_20, i_21, i_22, i_23, i_24, i_25, i_26, i_27, i_28, i_29, i_30, i_31, i_32, i_33, i_34, i_35, i_36, i_37, i_38, i_39, i_40, i_41, i_42, i_43, i_44, i_45, i_46])))] [.ref a_0] (fun u : Int32 × Int32 × Int32 × Int32 × Int64 × Int32 × Int32 => [(a_0, .inr (12, [.int i_0, .ref a_1, .ref a_2, .ref a_3, .ref a_4, .ref a_5, .int i_1, .int u.1, .int u.2.1, .int u.2.2.1, .int u.2.2.2.1, .long u.2.2.2.2.1, .int u.2.2.2.2.2.1, .int u.2.2.2.2.2.2, .int i_8, .int i_9, .ref a_6, .ref a_7, .ref a_8, .ref a_9, .ref a_10, .ref a_11, .ref a_12, .ref a_13, .ref a_14, .ref a_15, .ref a_16, .ref a_17, .ref a_18, .int i_10, .int i_11, .int i_12, .int i_13, .int i_14, .int i_15, .ref a_19, .int i_16, .ref a_20])), (a_5, .inl (cy 0, 600, .inl f_0)), (a_7, .inl (cy 1, 30, .inl (mm_g [i_17, i_18, i_19, i_20, i_21, i_22, i_23, i_24, i_25, i_26, i_27, i_28, i_29, i_30, i_31, i_32, i_33, i_34, i_35, i_36, i_37, i_38, i_39, i_40, i_41, i_42, i_43, i_44, i_45, i_46])))]) (fun (r : Int32) (u : Int32 × Int32 × Int32 × Int32 × Int64 × Int32 × Int32) => mm_rg u.1 0 600 ∧ mm_rg u.2.1 0 4 ∧ mm_rg u.2.2.1 0 600 ∧ mm_rg u.2.2.2.2.2.1 0 3 ∧ (u.2.2.1 : Int32).toInt ≤ (u.1 : Int32).toInt ∧ (u.1 : Int32).toInt ≤ (i_1 : Int32).toInt ∧ mm_tk u.2.1 u.2.2.1 u.1 ∧ (i_4 : Int32).toInt ≤ (u.2.2.1 : Int32).toInt ∧ mm_b0 i_6 u.2.2.2.2.2.1 ∧ mm_rg r 0 9 ∧ (r : Int32).toInt ≤ (i_43 : Int32).toInt ∧ mm_nv u.2.2.2.2.2.1 r i_3 i_5) 0 0 := by
  refine mm_begin (lv := [(0, .ref a_0)]) (by decide) (Nat.le_of_ble_eq_true rfl) rfl ?_
  intro p e s m below meth c A ls R args Q H locs hRe hQ hAe hx hb hr hlocks hml hown hnm hts hsz hA hS hP hK hD hZ hl
  have hRf : R.frames = 3 := by rw [hRe]
  have hRl : R.locals = 67 := by rw [hRe]
  have hRc : R.cells = 0 := by rw [hRe]
  have hRs : R.slots = 0 := by rw [hRe]
  refine lv_aload_n hx hb dX12_wordHere_0 rfl (lv_at hl 0 rfl) ?_
  refine lv_iconst (v := 0) hx hb dX12_wordHere_1 (by decide) ?_
  refine lv_aload_n hx hb dX12_wordHere_2 rfl (lv_at hl 0 rfl) ?_
  refine lv_iconst (v := 2) hx hb dX12_wordHere_3 (by decide) ?_
  refine mm_finir (va_runV (As := [.int 2]) (rest := [.int 0, .ref a_0]) ⟨hx, hb, hml, hown, hts⟩ (M37_X12_hasRead l G cy H.size a_0 i_0 a_1 a_2 a_3 a_4 a_5 i_1 i_2 i_3 i_4 i_5 j_0 i_6 i_7 i_8 i_9 a_6 a_7 a_8 a_9 a_10 a_11 a_12 a_13 a_14 a_15 a_16 a_17 a_18 i_10 i_11 i_12 i_13 i_14 i_15 a_19 i_16 a_20 i_17 i_18 i_19 i_20 i_21 i_22 i_23 i_24 i_25 i_26 i_27 i_28 i_29 i_30 i_31 i_32 i_33 i_34 i_35 i_36 i_37 i_38 i_39 i_40 i_41 i_42 i_43 i_44 i_45 i_46 h6 h7 h8 h9 h10 h11 h12 h13 h14 h15 h16 h17 h18 h19 h20 h21 h22 h23 h24 h25 h26 h27 h28 h29 h30 h31 h32 h33 h34 h35) (cwV 1 hts (mm_gV mm_w503 mm_w504 mm_w505 mm_w5 mm_w506) rfl rfl rfl hd_X12_hasRead ⟨by rw [hRf]; exact Nat.le_of_ble_eq_true rfl, by rw [hRl]; exact Nat.le_of_ble_eq_true rfl⟩) (mm_preV hK hZ hS hA hP hD [0, 2] rfl rfl 0 rfl rfl rfl) rfl rfl hl.1 rfl (lv_room (Nat.le_of_ble_eq_true rfl)) dX12_wordHere_4 ⟨by rw [hRc]; exact Nat.le_of_ble_eq_true rfl, by rw [hRs]; exact Nat.le_of_ble_eq_true rfl⟩) hP hD hS hA [0, 2] rfl (fun _ => rfl) ?_
  clear hP hD hS
  clear H locs
  intro v1 _u H locs hw hP hD hS
  subst hw
  refine mm_fini (va_runV (As := [.int 0, .int i_43]) (rest := []) ⟨hx, hb, hml, hown, hts⟩ (M49_X12_number l G cy H.size a_0 i_43 i_0 a_1 a_2 a_3 a_4 a_5 i_1 i_2 i_3 i_4 i_5 j_0 i_6 i_7 i_8 i_9 a_6 a_7 a_8 a_9 a_10 a_11 a_12 a_13 a_14 a_15 a_16 a_17 a_18 i_10 i_11 i_12 i_13 i_14 i_15 a_19 i_16 a_20 f_0 h32 h0 h1 h2 h3 h4 h5 h36 h37 h38) (cwV 2 hts (mm_gV mm_w491 mm_w492 mm_w493 mm_w5 mm_w494) rfl rfl rfl hd_X12_number ⟨by rw [hRf]; exact Nat.le_of_ble_eq_true rfl, by rw [hRl]; exact Nat.le_of_ble_eq_true rfl⟩) (mm_preV hK hZ hS hA hP hD [0, 1] rfl rfl 0 rfl rfl rfl) rfl rfl hl.1 rfl (lv_room (Nat.le_of_ble_eq_true rfl)) dX12_wordHere_7 ⟨by rw [hRc]; exact Nat.le_of_ble_eq_true rfl, by rw [hRs]; exact Nat.le_of_ble_eq_true rfl⟩) hP hD hS hA (fun u : Int32 × Int32 × Int32 × Int32 × Int64 × Int32 × Int32 => [(a_0, .inr (12, [.int i_0, .ref a_1, .ref a_2, .ref a_3, .ref a_4, .ref a_5, .int i_1, .int u.1, .int u.2.1, .int u.2.2.1, .int u.2.2.2.1, .long u.2.2.2.2.1, .int u.2.2.2.2.2.1, .int u.2.2.2.2.2.2, .int i_8, .int i_9, .ref a_6, .ref a_7, .ref a_8, .ref a_9, .ref a_10, .ref a_11, .ref a_12, .ref a_13, .ref a_14, .ref a_15, .ref a_16, .ref a_17, .ref a_18, .int i_10, .int i_11, .int i_12, .int i_13, .int i_14, .int i_15, .ref a_19, .int i_16, .ref a_20])), (a_5, .inl (cy 0, 600, .inl f_0)), (a_7, .inl (cy 1, 30, .inl (mm_g [i_17, i_18, i_19, i_20, i_21, i_22, i_23, i_24, i_25, i_26, i_27, i_28, i_29, i_30, i_31, i_32, i_33, i_34, i_35, i_36, i_37, i_38, i_39, i_40, i_41, i_42, i_43, i_44, i_45, i_46])))]) [0, 1] [2] (n := 3) (fun _ => rfl) (by decide +kernel) (by decide +kernel) rfl (fun _ => rfl) (wr := [(a_7, .inl (cy 1, 30, .inl (mm_g [i_17, i_18, i_19, i_20, i_21, i_22, i_23, i_24, i_25, i_26, i_27, i_28, i_29, i_30, i_31, i_32, i_33, i_34, i_35, i_36, i_37, i_38, i_39, i_40, i_41, i_42, i_43, i_44, i_45, i_46])))]) rfl (fun _ => rfl) (fun _ => rfl) ?_
  clear hP hD hS
  clear H locs
  intro v9 u
  obtain ⟨n2, n3, n4, n5, n6, n7, n8⟩ := u
  intro H locs hw (hP : va_P G vwCl [(a_0, .inr (12, [.int i_0, .ref a_1, .ref a_2, .ref a_3, .ref a_4, .ref a_5, .int i_1, .int n2, .int n3, .int n4, .int n5, .long n6, .int n7, .int n8, .int i_8, .int i_9, .ref a_6, .ref a_7, .ref a_8, .ref a_9, .ref a_10, .ref a_11, .ref a_12, .ref a_13, .ref a_14, .ref a_15, .ref a_16, .ref a_17, .ref a_18, .int i_10, .int i_11, .int i_12, .int i_13, .int i_14, .int i_15, .ref a_19, .int i_16, .ref a_20])), (a_5, .inl (cy 0, 600, .inl f_0)), (a_7, .inl (cy 1, 30, .inl (mm_g [i_17, i_18, i_19, i_20, i_21, i_22, i_23, i_24, i_25, i_26, i_27, i_28, i_29, i_30, i_31, i_32, i_33, i_34, i_35, i_36, i_37, i_38, i_39, i_40, i_41, i_42, i_43, i_44, i_45, i_46])))] H) (hD : va_D A [(a_0, .inr (12, [.int i_0, .ref a_1, .ref a_2, .ref a_3, .ref a_4, .ref a_5, .int i_1, .int n2, .int n3, .int n4, .int n5, .long n6, .int n7, .int n8, .int i_8, .int i_9, .ref a_6, .ref a_7, .ref a_8, .ref a_9, .ref a_10, .ref a_11, .ref a_12, .ref a_13, .ref a_14, .ref a_15, .ref a_16, .ref a_17, .ref a_18, .int i_10, .int i_11, .int i_12, .int i_13, .int i_14, .int i_15, .ref a_19, .int i_16, .ref a_20])), (a_5, .inl (cy 0, 600, .inl f_0)), (a_7, .inl (cy 1, 30, .inl (mm_g [i_17, i_18, i_19, i_20, i_21, i_22, i_23, i_24, i_25, i_26, i_27, i_28, i_29, i_30, i_31, i_32, i_33, i_34, i_35, i_36, i_37, i_38, i_39, i_40, i_41, i_42, i_43, i_44, i_45, i_46])))]) hS
  obtain ⟨w10, w11, w12, w13, w14, w15, w16, w17, w18, hw⟩ := hw
  replace w14 : (n4 : Int32).toInt ≤ (n2 : Int32).toInt := w14
  replace w15 : (n2 : Int32).toInt ≤ (i_1 : Int32).toInt := w15
  replace w16 : mm_tk n3 n4 n2 := w16
  replace w17 : (i_4 : Int32).toInt ≤ (n4 : Int32).toInt := w17
  replace w18 : mm_b0 i_6 n7 := w18
  obtain ⟨w19, w20, w21⟩ := hw
  replace w20 : (v9 : Int32).toInt ≤ (i_43 : Int32).toInt := w20
  replace w21 : mm_nv n7 v9 i_3 i_5 := w21
  subst hAe
  rw [hQ]
  exact W.iret (v := v9) hx hb hr (fun t ht hW => ⟨⟨v9, (n2, n3, n4, n5, n6, n7, n8), rfl, ⟨w10, w11, w12, w13, w14, w15, w16, w17, w18, ⟨w19, w20, w21⟩⟩, by rw [ht]; exact hP, hK.warm hW, hD⟩, hS.F ht⟩) hS.2.2 dX12_wordHere_10

set_option maxHeartbeats 4000000 in
set_option maxRecDepth 100000 in
theorem M51_X12_number (l : Launch) (G : va_G) (cy : Nat → ClassId) (sz : Nat) (a_0 : Nat) (i_0 : Int32) (i_1 : Int32) (a_1 : Nat) (a_2 : Nat) (a_3 : Nat) (a_4 : Nat) (a_5 : Nat) (i_2 : Int32) (i_3 : Int32) (i_4 : Int32) (i_5 : Int32) (i_6 : Int32) (j_0 : Int64) (i_7 : Int32) (i_8 : Int32) (i_9 : Int32) (i_10 : Int32) (a_6 : Nat) (a_7 : Nat) (a_8 : Nat) (a_9 : Nat) (a_10 : Nat) (a_11 : Nat) (a_12 : Nat) (a_13 : Nat) (a_14 : Nat) (a_15 : Nat) (a_16 : Nat) (a_17 : Nat) (a_18 : Nat) (i_11 : Int32) (i_12 : Int32) (i_13 : Int32) (i_14 : Int32) (i_15 : Int32) (i_16 : Int32) (a_19 : Nat) (i_17 : Int32) (a_20 : Nat) (h0 : mm_rg i_0 0 9) (h1 : mm_rg i_3 0 600) (h2 : mm_rg i_4 0 4) (h3 : mm_rg i_5 0 600) (h4 : mm_rg i_7 1 3) (h5 : (i_5 : Int32).toInt ≤ (i_3 : Int32).toInt) (h6 : (i_3 : Int32).toInt ≤ (i_2 : Int32).toInt) (h7 : mm_tk i_4 i_5 i_3)  : mm_CI l yX12_number (mm_ws yX12_number cX12_number 4 (some .int)) ({ frames := 0, cells := 0, slots := 0, locals := 0 } : Room) G cy sz [(a_0, .inr (12, [.int i_1, .ref a_1, .ref a_2, .ref a_3, .ref a_4, .ref a_5, .int i_2, .int i_3, .int i_4, .int i_5, .int i_6, .long j_0, .int i_7, .int i_8, .int i_9, .int i_10, .ref a_6, .ref a_7, .ref a_8, .ref a_9, .ref a_10, .ref a_11, .ref a_12, .ref a_13, .ref a_14, .ref a_15, .ref a_16, .ref a_17, .ref a_18, .int i_11, .int i_12, .int i_13, .int i_14, .int i_15, .int i_16, .ref a_19, .int i_17, .ref a_20]))] [.ref a_0, .int 0, .int i_0] (fun u : Unit => [(a_0, .inr (12, [.int i_1, .ref a_1, .ref a_2, .ref a_3, .ref a_4, .ref a_5, .int i_2, .int i_3, .int i_4, .int i_5, .int i_6, .long j_0, .int i_7, .int i_8, .int i_9, .int i_10, .ref a_6, .ref a_7, .ref a_8, .ref a_9, .ref a_10, .ref a_11, .ref a_12, .ref a_13, .ref a_14, .ref a_15, .ref a_16, .ref a_17, .ref a_18, .int i_11, .int i_12, .int i_13, .int i_14, .int i_15, .int i_16, .ref a_19, .int i_17, .ref a_20]))]) (fun (r : Int32) (u : Unit) => 0 = r ∧ (r : Int32).toInt ≤ (i_0 : Int32).toInt ∧ mm_nv i_7 r i_4 i_6) 0 0 := by
  refine mm_begin (lv := [(0, .ref a_0), (1, .int 0), (2, .int i_0)]) (by decide) (Nat.le_of_ble_eq_true rfl) rfl ?_
  intro p e s m below meth c A ls R args Q H locs hRe hQ hAe hx hb hr hlocks hml hown hnm hts hsz hA hS hP hK hD hZ hl
  have hRf : R.frames = 0 := by rw [hRe]
  have hRl : R.locals = 0 := by rw [hRe]
  have hRc : R.cells = 0 := by rw [hRe]
  have hRs : R.slots = 0 := by rw [hRe]
  have q1 := mm_leR h6 h1 (mm_top i_2)
  refine lv_aload_n hx hb dX12_number_0 rfl (lv_at hl 0 rfl) ?_
  refine va_get (D := G) (ci := 12) (v := .int i_7) (C := RX12) (T := TX12) (N := 38) hx hb hts (mm_i inlX12) hown hK.1 hP 0 rfl rfl 12 (by decide) (mm_h hts mm_w436) (fun _ h9 => h9) rfl dX12_number_1 ?_
  refine lv_if_eq (tgt := 9) hx hb dX12_number_4 (by decide) (fun c2 => ?_) (fun c2 => ?_)
  · exact mm_eqN c2.symm mm_k0 h4 (by decide)
  · refine lv_iload_n hx hb dX12_number_7 rfl (lv_at hl 1 rfl) ?_
    have w3 : (0 : Int32).toInt ≤ (i_0 : Int32).toInt := (mm_leC mm_k0 h0 (by decide))
    have w4 : mm_nv i_7 0 i_4 i_6 := (mm_nv_n h4 (by decide))
    subst hAe
    rw [hQ]
    exact W.iret (v := 0) hx hb hr (fun t ht hW => ⟨⟨0, (), rfl, ⟨rfl, w3, w4⟩, by rw [ht]; exact hP, hK.warm hW, hD⟩, hS.F ht⟩) hS.2.2 dX12_number_8

set_option maxHeartbeats 4000000 in
set_option maxRecDepth 100000 in
theorem M52_X12_wordHere (l : Launch) (G : va_G) (cy : Nat → ClassId) (sz : Nat) (a_0 : Nat) (i_0 : Int32) (a_1 : Nat) (a_2 : Nat) (a_3 : Nat) (a_4 : Nat) (a_5 : Nat) (i_1 : Int32) (i_2 : Int32) (i_3 : Int32) (i_4 : Int32) (i_5 : Int32) (j_0 : Int64) (i_6 : Int32) (i_7 : Int32) (i_8 : Int32) (i_9 : Int32) (a_6 : Nat) (a_7 : Nat) (a_8 : Nat) (a_9 : Nat) (a_10 : Nat) (a_11 : Nat) (a_12 : Nat) (a_13 : Nat) (a_14 : Nat) (a_15 : Nat) (a_16 : Nat) (a_17 : Nat) (a_18 : Nat) (i_10 : Int32) (i_11 : Int32) (i_12 : Int32) (i_13 : Int32) (i_14 : Int32) (i_15 : Int32) (a_19 : Nat) (i_16 : Int32) (a_20 : Nat) (i_17 : Int32) (i_18 : Int32) (i_19 : Int32) (i_20 : Int32) (i_21 : Int32) (i_22 : Int32) (i_23 : Int32) (i_24 : Int32) (i_25 : Int32) (i_26 : Int32) (i_27 : Int32) (i_28 : Int32) (i_29 : Int32) (i_30 : Int32) (i_31 : Int32) (i_32 : Int32) (i_33 : Int32) (i_34 : Int32) (i_35 : Int32) (i_36 : Int32) (i_37 : Int32) (i_38 : Int32) (i_39 : Int32) (i_40 : Int32) (i_41 : Int32) (i_42 : Int32) (i_43 : Int32) (i_44 : Int32) (i_45 : Int32) (i_46 : Int32) (h0 : mm_rg i_2 0 600) (h1 : mm_rg i_3 0 4) (h2 : mm_rg i_4 0 600) (h3 : mm_rg i_6 1 3) (h4 : mm_rg i_17 0 10) (h5 : mm_rg i_18 0 99) (h6 : mm_rg i_19 0 9) (h7 : mm_rg i_20 0 3) (h8 : mm_rg i_21 0 6) (h9 : mm_rg i_22 0 30) (h10 : mm_rg i_23 0 10) (h11 : mm_rg i_24 0 99) (h12 : mm_rg i_25 0 9) (h13 : mm_rg i_26 0 3) (h14 : mm_rg i_27 0 6) (h15 : mm_rg i_28 0 30) (h16 : mm_rg i_29 0 10) (h17 : mm_rg i_30 0 99) (h18 : mm_rg i_31 0 9) (h19 : mm_rg i_32 0 3) (h20 : mm_rg i_33 0 6) (h21 : mm_rg i_34 0 30) (h22 : mm_rg i_35 0 10) (h23 : mm_rg i_36 0 99) (h24 : mm_rg i_37 0 9) (h25 : mm_rg i_38 0 3) (h26 : mm_rg i_39 0 6) (h27 : mm_rg i_40 0 30) (h28 : mm_rg i_41 0 10) (h29 : mm_rg i_42 0 99) (h30 : mm_rg i_43 0 9) (h31 : mm_rg i_44 0 3) (h32 : mm_rg i_45 0 6) (h33 : mm_rg i_46 0 30) (h34 : (i_4 : Int32).toInt ≤ (i_2 : Int32).toInt) (h35 : (i_2 : Int32).toInt ≤ (i_1 : Int32).toInt) (h36 : mm_tk i_3 i_4 i_2)  : mm_CI l yX12_wordHere (mm_ws yX12_wordHere cX12_wordHere 1 (some .int)) ({ frames := 1, cells := 0, slots := 0, locals := 23 } : Room) G cy sz [(a_0, .inr (12, [.int i_0, .ref a_1, .ref a_2, .ref a_3, .ref a_4, .ref a_5, .int i_1, .int i_2, .int i_3, .int i_4, .int i_5, .long j_0, .int i_6, .int i_7, .int i_8, .int i_9, .ref a_6, .ref a_7, .ref a_8, .ref a_9, .ref a_10, .ref a_11, .ref a_12, .ref a_13, .ref a_14, .ref a_15, .ref a_16, .ref a_17, .ref a_18, .int i_10, .int i_11, .int i_12, .int i_13, .int i_14, .int i_15, .ref a_19, .int i_16, .ref a_20])), (a_7, .inl (cy 1, 30, .inl (mm_g [i_17, i_18, i_19, i_20, i_21, i_22, i_23, i_24, i_25, i_26, i_27, i_28, i_29, i_30, i_31, i_32, i_33, i_34, i_35, i_36, i_37, i_38, i_39, i_40, i_41, i_42, i_43, i_44, i_45, i_46])))] [.ref a_0] (fun u : Unit => [(a_0, .inr (12, [.int i_0, .ref a_1, .ref a_2, .ref a_3, .ref a_4, .ref a_5, .int i_1, .int i_2, .int i_3, .int i_4, .int i_5, .long j_0, .int i_6, .int i_7, .int i_8, .int i_9, .ref a_6, .ref a_7, .ref a_8, .ref a_9, .ref a_10, .ref a_11, .ref a_12, .ref a_13, .ref a_14, .ref a_15, .ref a_16, .ref a_17, .ref a_18, .int i_10, .int i_11, .int i_12, .int i_13, .int i_14, .int i_15, .ref a_19, .int i_16, .ref a_20])), (a_7, .inl (cy 1, 30, .inl (mm_g [i_17, i_18, i_19, i_20, i_21, i_22, i_23, i_24, i_25, i_26, i_27, i_28, i_29, i_30, i_31, i_32, i_33, i_34, i_35, i_36, i_37, i_38, i_39, i_40, i_41, i_42, i_43, i_44, i_45, i_46])))]) (fun (r : Int32) (u : Unit) => 0 = r ∧ (r : Int32).toInt ≤ (i_43 : Int32).toInt ∧ mm_nv i_6 r i_3 i_5) 0 0 := by
  refine mm_begin (lv := [(0, .ref a_0)]) (by decide) (Nat.le_of_ble_eq_true rfl) rfl ?_
  intro p e s m below meth c A ls R args Q H locs hRe hQ hAe hx hb hr hlocks hml hown hnm hts hsz hA hS hP hK hD hZ hl
  have hRf : R.frames = 1 := by rw [hRe]
  have hRl : R.locals = 23 := by rw [hRe]
  have hRc : R.cells = 0 := by rw [hRe]
  have hRs : R.slots = 0 := by rw [hRe]
  have q1 := mm_leR h35 h0 (mm_top i_1)
  refine lv_aload_n hx hb dX12_wordHere_0 rfl (lv_at hl 0 rfl) ?_
  refine lv_iconst (v := 0) hx hb dX12_wordHere_1 (by decide) ?_
  refine lv_aload_n hx hb dX12_wordHere_2 rfl (lv_at hl 0 rfl) ?_
  refine lv_iconst (v := 2) hx hb dX12_wordHere_3 (by decide) ?_
  refine mm_finir (va_runV (As := [.int 2]) (rest := [.int 0, .ref a_0]) ⟨hx, hb, hml, hown, hts⟩ (M37_X12_hasRead l G cy H.size a_0 i_0 a_1 a_2 a_3 a_4 a_5 i_1 i_2 i_3 i_4 i_5 j_0 i_6 i_7 i_8 i_9 a_6 a_7 a_8 a_9 a_10 a_11 a_12 a_13 a_14 a_15 a_16 a_17 a_18 i_10 i_11 i_12 i_13 i_14 i_15 a_19 i_16 a_20 i_17 i_18 i_19 i_20 i_21 i_22 i_23 i_24 i_25 i_26 i_27 i_28 i_29 i_30 i_31 i_32 i_33 i_34 i_35 i_36 i_37 i_38 i_39 i_40 i_41 i_42 i_43 i_44 i_45 i_46 h4 h5 h6 h7 h8 h9 h10 h11 h12 h13 h14 h15 h16 h17 h18 h19 h20 h21 h22 h23 h24 h25 h26 h27 h28 h29 h30 h31 h32 h33) (cwV 1 hts (mm_gV mm_w503 mm_w504 mm_w505 mm_w5 mm_w506) rfl rfl rfl hd_X12_hasRead ⟨by rw [hRf]; exact Nat.le_of_ble_eq_true rfl, by rw [hRl]; exact Nat.le_of_ble_eq_true rfl⟩) (mm_preV hK hZ hS hA hP hD [0, 1] rfl rfl 0 rfl rfl rfl) rfl rfl hl.1 rfl (lv_room (Nat.le_of_ble_eq_true rfl)) dX12_wordHere_4 ⟨by rw [hRc]; exact Nat.le_of_ble_eq_true rfl, by rw [hRs]; exact Nat.le_of_ble_eq_true rfl⟩) hP hD hS hA [0, 1] rfl (fun _ => rfl) ?_
  clear hP hD hS
  clear H locs
  intro v2 _u H locs hw hP hD hS
  subst hw
  refine mm_finir (va_runV (As := [.int 0, .int i_43]) (rest := []) ⟨hx, hb, hml, hown, hts⟩ (M51_X12_number l G cy H.size a_0 i_43 i_0 a_1 a_2 a_3 a_4 a_5 i_1 i_2 i_3 i_4 i_5 j_0 i_6 i_7 i_8 i_9 a_6 a_7 a_8 a_9 a_10 a_11 a_12 a_13 a_14 a_15 a_16 a_17 a_18 i_10 i_11 i_12 i_13 i_14 i_15 a_19 i_16 a_20 h30 h0 h1 h2 h3 h34 h35 h36) (cwV 2 hts (mm_gV mm_w491 mm_w492 mm_w493 mm_w5 mm_w494) rfl rfl rfl hd_X12_number ⟨by rw [hRf]; exact Nat.le_of_ble_eq_true rfl, by rw [hRl]; exact Nat.le_of_ble_eq_true rfl⟩) (mm_preV hK hZ hS hA hP hD [0] rfl rfl 0 rfl rfl rfl) rfl rfl hl.1 rfl (lv_room (Nat.le_of_ble_eq_true rfl)) dX12_wordHere_7 ⟨by rw [hRc]; exact Nat.le_of_ble_eq_true rfl, by rw [hRs]; exact Nat.le_of_ble_eq_true rfl⟩) hP hD hS hA [0] rfl (fun _ => rfl) ?_
  clear hP hD hS
  clear H locs
  intro v3 _u H locs hw hP hD hS
  obtain ⟨rfl, w4, w5⟩ := hw
  subst hAe
  rw [hQ]
  exact W.iret (v := 0) hx hb hr (fun t ht hW => ⟨⟨0, (), rfl, ⟨rfl, w4, w5⟩, by rw [ht]; exact hP, hK.warm hW, hD⟩, hS.F ht⟩) hS.2.2 dX12_wordHere_10

set_option maxHeartbeats 4000000 in
set_option maxRecDepth 100000 in
theorem M53_X12_tells (l : Launch) (G : va_G) (cy : Nat → ClassId) (sz : Nat) (a_0 : Nat) (i_0 : Int32) (i_1 : Int32) (a_1 : Nat) (a_2 : Nat) (a_3 : Nat) (a_4 : Nat) (a_5 : Nat) (i_2 : Int32) (i_3 : Int32) (i_4 : Int32) (i_5 : Int32) (i_6 : Int32) (j_0 : Int64) (i_7 : Int32) (i_8 : Int32) (i_9 : Int32) (i_10 : Int32) (a_6 : Nat) (a_7 : Nat) (a_8 : Nat) (a_9 : Nat) (a_10 : Nat) (a_11 : Nat) (a_12 : Nat) (a_13 : Nat) (a_14 : Nat) (a_15 : Nat) (a_16 : Nat) (a_17 : Nat) (a_18 : Nat) (i_11 : Int32) (i_12 : Int32) (i_13 : Int32) (i_14 : Int32) (i_15 : Int32) (i_16 : Int32) (a_19 : Nat) (i_17 : Int32) (a_20 : Nat) (i_18 : Int32) (i_19 : Int32) (i_20 : Int32) (i_21 : Int32) (i_22 : Int32) (i_23 : Int32) (i_24 : Int32) (i_25 : Int32) (i_26 : Int32) (i_27 : Int32) (i_28 : Int32) (i_29 : Int32) (i_30 : Int32) (i_31 : Int32) (i_32 : Int32) (i_33 : Int32) (i_34 : Int32) (i_35 : Int32) (i_36 : Int32) (i_37 : Int32) (i_38 : Int32) (i_39 : Int32) (i_40 : Int32) (i_41 : Int32) (i_42 : Int32) (i_43 : Int32) (i_44 : Int32) (i_45 : Int32) (i_46 : Int32) (i_47 : Int32) (h0 : mm_rg i_0 1 6) (h1 : mm_rg i_18 0 10) (h2 : mm_rg i_19 0 99) (h3 : mm_rg i_20 0 9) (h4 : mm_rg i_21 0 3) (h5 : mm_rg i_22 0 6) (h6 : mm_rg i_23 0 30) (h7 : mm_rg i_24 0 10) (h8 : mm_rg i_25 0 99) (h9 : mm_rg i_26 0 9) (h10 : mm_rg i_27 0 3) (h11 : mm_rg i_28 0 6) (h12 : mm_rg i_29 0 30) (h13 : mm_rg i_30 0 10) (h14 : mm_rg i_31 0 99) (h15 : mm_rg i_32 0 9) (h16 : mm_rg i_33 0 3) (h17 : mm_rg i_34 0 6) (h18 : mm_rg i_35 0 30) (h19 : mm_rg i_36 0 10) (h20 : mm_rg i_37 0 99) (h21 : mm_rg i_38 0 9) (h22 : mm_rg i_39 0 3) (h23 : mm_rg i_40 0 6) (h24 : mm_rg i_41 0 30) (h25 : mm_rg i_42 0 10) (h26 : mm_rg i_43 0 99) (h27 : mm_rg i_44 0 9) (h28 : mm_rg i_45 0 3) (h29 : mm_rg i_46 0 6) (h30 : mm_rg i_47 0 30)  : mm_CV l yX12_tells (mm_ws yX12_tells cX12_tells 3 (none)) ({ frames := 0, cells := 0, slots := 0, locals := 0 } : Room) G cy sz [(a_0, .inr (12, [.int i_1, .ref a_1, .ref a_2, .ref a_3, .ref a_4, .ref a_5, .int i_2, .int i_3, .int i_4, .int i_5, .int i_6, .long j_0, .int i_7, .int i_8, .int i_9, .int i_10, .ref a_6, .ref a_7, .ref a_8, .ref a_9, .ref a_10, .ref a_11, .ref a_12, .ref a_13, .ref a_14, .ref a_15, .ref a_16, .ref a_17, .ref a_18, .int i_11, .int i_12, .int i_13, .int i_14, .int i_15, .int i_16, .ref a_19, .int i_17, .ref a_20])), (a_7, .inl (cy 1, 30, .inl (mm_g [i_18, i_19, i_20, i_21, i_22, i_23, i_24, i_25, i_26, i_27, i_28, i_29, i_30, i_31, i_32, i_33, i_34, i_35, i_36, i_37, i_38, i_39, i_40, i_41, i_42, i_43, i_44, i_45, i_46, i_47])))] [.ref a_0, .int 4, .int i_0] (fun u : Unit => [(a_0, .inr (12, [.int i_1, .ref a_1, .ref a_2, .ref a_3, .ref a_4, .ref a_5, .int i_2, .int i_3, .int i_4, .int i_5, .int i_6, .long j_0, .int i_7, .int i_8, .int i_9, .int i_10, .ref a_6, .ref a_7, .ref a_8, .ref a_9, .ref a_10, .ref a_11, .ref a_12, .ref a_13, .ref a_14, .ref a_15, .ref a_16, .ref a_17, .ref a_18, .int i_11, .int i_12, .int i_13, .int i_14, .int i_15, .int i_16, .ref a_19, .int i_17, .ref a_20])), (a_7, .inl (cy 1, 30, .inl (mm_g [i_18, i_19, i_20, i_21, i_22, i_23, i_24, i_25, i_26, i_27, i_28, i_29, i_30, i_31, i_32, i_33, i_34, i_35, i_36, i_37, i_38, i_39, i_40, i_41, i_42, i_43, i_44, i_45, i_0, i_47])))]) (fun u : Unit => True) 0 0 := by
  refine mm_begin (lv := [(0, .ref a_0), (1, .int 4), (2, .int i_0)]) (by decide) (Nat.le_of_ble_eq_true rfl) rfl ?_
  intro p e s m below meth c A ls R args Q H locs hRe hQ hAe hx hb hr hlocks hml hown hnm hts hsz hA hS hP hK hD hZ hl
  have hRf : R.frames = 0 := by rw [hRe]
  have hRl : R.locals = 0 := by rw [hRe]
  have hRc : R.cells = 0 := by rw [hRe]
  have hRs : R.slots = 0 := by rw [hRe]
  refine lv_aload_n hx hb dX12_tells_0 rfl (lv_at hl 0 rfl) ?_
  refine va_get (D := G) (ci := 12) (v := .ref a_7) (C := RX12) (T := TX12) (N := 38) hx hb hts (mm_i inlX12) hown hK.1 hP 0 rfl rfl 17 (by decide) (mm_h hts mm_w149) (fun _ h9 => h9) rfl dX12_tells_1 ?_
  refine lv_bipush (v := 24) hx hb dX12_tells_4 (by decide) ?_
  refine lv_iload_n hx hb dX12_tells_6 rfl (lv_at hl 1 rfl) ?_
  refine lv_iadd hx hb dX12_tells_7 ?_
  refine lv_topi (fun v1 ev1 => ?_)
  obtain rfl : v1 = 28 := ev1.trans (by decide)
  refine lv_iload_n hx hb dX12_tells_8 rfl (lv_at hl 2 rfl) ?_
  refine va_iast hx hb hK.1 hP hD hS 1 1 rfl rfl (mm_in mm_k28 (by decide)) dX12_tells_9 ?_
  clear hP hD hS
  clear H locs
  rw [show upd (mm_g [i_18, i_19, i_20, i_21, i_22, i_23, i_24, i_25, i_26, i_27, i_28, i_29, i_30, i_31, i_32, i_33, i_34, i_35, i_36, i_37, i_38, i_39, i_40, i_41, i_42, i_43, i_44, i_45, i_46, i_47]) (28 : Int32).toNatClampNeg i_0 = (mm_g [i_18, i_19, i_20, i_21, i_22, i_23, i_24, i_25, i_26, i_27, i_28, i_29, i_30, i_31, i_32, i_33, i_34, i_35, i_36, i_37, i_38, i_39, i_40, i_41, i_42, i_43, i_44, i_45, i_0, i_47]) from mm_gs2 28 30 (by decide) rfl rfl rfl]
  intro H locs (hP : va_P G vwCl [(a_0, .inr (12, [.int i_1, .ref a_1, .ref a_2, .ref a_3, .ref a_4, .ref a_5, .int i_2, .int i_3, .int i_4, .int i_5, .int i_6, .long j_0, .int i_7, .int i_8, .int i_9, .int i_10, .ref a_6, .ref a_7, .ref a_8, .ref a_9, .ref a_10, .ref a_11, .ref a_12, .ref a_13, .ref a_14, .ref a_15, .ref a_16, .ref a_17, .ref a_18, .int i_11, .int i_12, .int i_13, .int i_14, .int i_15, .int i_16, .ref a_19, .int i_17, .ref a_20])), (a_7, .inl (cy 1, 30, .inl (mm_g [i_18, i_19, i_20, i_21, i_22, i_23, i_24, i_25, i_26, i_27, i_28, i_29, i_30, i_31, i_32, i_33, i_34, i_35, i_36, i_37, i_38, i_39, i_40, i_41, i_42, i_43, i_44, i_45, i_0, i_47])))] H) (hD : va_D A [(a_0, .inr (12, [.int i_1, .ref a_1, .ref a_2, .ref a_3, .ref a_4, .ref a_5, .int i_2, .int i_3, .int i_4, .int i_5, .int i_6, .long j_0, .int i_7, .int i_8, .int i_9, .int i_10, .ref a_6, .ref a_7, .ref a_8, .ref a_9, .ref a_10, .ref a_11, .ref a_12, .ref a_13, .ref a_14, .ref a_15, .ref a_16, .ref a_17, .ref a_18, .int i_11, .int i_12, .int i_13, .int i_14, .int i_15, .int i_16, .ref a_19, .int i_17, .ref a_20])), (a_7, .inl (cy 1, 30, .inl (mm_g [i_18, i_19, i_20, i_21, i_22, i_23, i_24, i_25, i_26, i_27, i_28, i_29, i_30, i_31, i_32, i_33, i_34, i_35, i_36, i_37, i_38, i_39, i_40, i_41, i_42, i_43, i_44, i_45, i_0, i_47])))]) hS
  subst hAe
  rw [hQ]
  exact W.vret hx hb hr (fun t ht hW => ⟨⟨(), rfl, trivial, by rw [ht]; exact hP, hK.warm hW, hD⟩, hS.F ht⟩) hS.2.2 dX12_tells_10

set_option maxHeartbeats 4000000 in
set_option maxRecDepth 100000 in
theorem M54_X12_textLine (l : Launch) (G : va_G) (cy : Nat → ClassId) (sz : Nat) (a_0 : Nat) (i_0 : Int32) (a_1 : Nat) (a_2 : Nat) (a_3 : Nat) (a_4 : Nat) (a_5 : Nat) (i_1 : Int32) (i_2 : Int32) (i_3 : Int32) (i_4 : Int32) (i_5 : Int32) (j_0 : Int64) (i_6 : Int32) (i_7 : Int32) (i_8 : Int32) (i_9 : Int32) (a_6 : Nat) (a_7 : Nat) (a_8 : Nat) (a_9 : Nat) (a_10 : Nat) (a_11 : Nat) (a_12 : Nat) (a_13 : Nat) (a_14 : Nat) (a_15 : Nat) (a_16 : Nat) (a_17 : Nat) (a_18 : Nat) (i_10 : Int32) (i_11 : Int32) (i_12 : Int32) (i_13 : Int32) (i_14 : Int32) (i_15 : Int32) (a_19 : Nat) (i_16 : Int32) (a_20 : Nat) (f_0 : Nat → Int32) (i_17 : Int32) (i_18 : Int32) (i_19 : Int32) (i_20 : Int32) (i_21 : Int32) (i_22 : Int32) (i_23 : Int32) (i_24 : Int32) (i_25 : Int32) (i_26 : Int32) (i_27 : Int32) (i_28 : Int32) (i_29 : Int32) (i_30 : Int32) (i_31 : Int32) (i_32 : Int32) (i_33 : Int32) (i_34 : Int32) (i_35 : Int32) (i_36 : Int32) (i_37 : Int32) (i_38 : Int32) (i_39 : Int32) (i_40 : Int32) (i_41 : Int32) (i_42 : Int32) (i_43 : Int32) (i_44 : Int32) (i_45 : Int32) (i_46 : Int32) (f_1 : Nat → Int32) (f_2 : Nat → Int32) (h0 : mm_rg i_1 0 600) (h1 : mm_rg i_2 0 600) (h2 : mm_rg i_3 0 4) (h3 : mm_rg i_4 0 600) (h4 : mm_rg i_6 0 3) (h5 : mm_ar f_0 (-128) 127) (h6 : mm_rg i_17 0 10) (h7 : mm_rg i_18 0 99) (h8 : mm_rg i_19 0 9) (h9 : mm_rg i_20 0 3) (h10 : mm_rg i_21 0 6) (h11 : mm_rg i_22 0 30) (h12 : mm_rg i_23 0 10) (h13 : mm_rg i_24 0 99) (h14 : mm_rg i_25 0 9) (h15 : mm_rg i_26 0 3) (h16 : mm_rg i_27 0 6) (h17 : mm_rg i_28 0 30) (h18 : mm_rg i_29 0 10) (h19 : mm_rg i_30 0 99) (h20 : mm_rg i_31 0 9) (h21 : mm_rg i_32 0 3) (h22 : mm_rg i_33 0 6) (h23 : mm_rg i_34 0 30) (h24 : mm_rg i_35 0 10) (h25 : mm_rg i_36 0 99) (h26 : mm_rg i_37 0 9) (h27 : mm_rg i_38 0 3) (h28 : mm_rg i_39 0 6) (h29 : mm_rg i_40 0 30) (h30 : mm_rg i_41 0 10) (h31 : mm_rg i_42 0 99) (h32 : mm_rg i_43 0 9) (h33 : mm_rg i_44 0 3) (h34 : mm_rg i_45 0 5) (h35 : mm_rg i_46 0 30) (h36 : mm_ar f_1 0 8) (h37 : mm_ar f_2 0 9) (h38 : mm_txs f_1 f_2 0 i_19 i_21) (h39 : mm_txs f_1 f_2 1 i_25 i_27) (h40 : mm_txs f_1 f_2 2 i_31 i_33) (h41 : mm_txs f_1 f_2 3 i_37 i_39) (h42 : (i_4 : Int32).toInt ≤ (i_2 : Int32).toInt) (h43 : (i_2 : Int32).toInt ≤ (i_1 : Int32).toInt) (h44 : mm_tk i_3 i_4 i_2) (h45 : mm_txs f_1 f_2 4 i_43 i_45)  : mm_CV l yX12_textLine (mm_ws yX12_textLine cX12_textLine 3 (none)) ({ frames := 4, cells := 0, slots := 0, locals := 87 } : Room) G cy sz [(a_0, .inr (12, [.int i_0, .ref a_1, .ref a_2, .ref a_3, .ref a_4, .ref a_5, .int i_1, .int i_2, .int i_3, .int i_4, .int i_5, .long j_0, .int i_6, .int i_7, .int i_8, .int i_9, .ref a_6, .ref a_7, .ref a_8, .ref a_9, .ref a_10, .ref a_11, .ref a_12, .ref a_13, .ref a_14, .ref a_15, .ref a_16, .ref a_17, .ref a_18, .int i_10, .int i_11, .int i_12, .int i_13, .int i_14, .int i_15, .ref a_19, .int i_16, .ref a_20])), (a_5, .inl (cy 0, 600, .inl f_0)), (a_7, .inl (cy 1, 30, .inl (mm_g [i_17, i_18, i_19, i_20, i_21, i_22, i_23, i_24, i_25, i_26, i_27, i_28, i_29, i_30, i_31, i_32, i_33, i_34, i_35, i_36, i_37, i_38, i_39, i_40, i_41, i_42, i_43, i_44, i_45, i_46]))), (a_11, .inl (cy 1, 30, .inl f_1)), (a_12, .inl (cy 1, 240, .inl f_2))] [.ref a_0] (fun u : Int32 × Int32 × Int32 × Int32 × Int64 × Int32 × Int32 × Int32 × (Nat → Int32) × (Nat → Int32) => [(a_0, .inr (12, [.int i_0, .ref a_1, .ref a_2, .ref a_3, .ref a_4, .ref a_5, .int i_1, .int u.1, .int u.2.1, .int u.2.2.1, .int u.2.2.2.1, .long u.2.2.2.2.1, .int u.2.2.2.2.2.1, .int u.2.2.2.2.2.2.1, .int i_8, .int i_9, .ref a_6, .ref a_7, .ref a_8, .ref a_9, .ref a_10, .ref a_11, .ref a_12, .ref a_13, .ref a_14, .ref a_15, .ref a_16, .ref a_17, .ref a_18, .int i_10, .int i_11, .int i_12, .int i_13, .int i_14, .int i_15, .ref a_19, .int i_16, .ref a_20])), (a_5, .inl (cy 0, 600, .inl f_0)), (a_7, .inl (cy 1, 30, .inl (mm_g [i_17, i_18, i_19, i_20, i_21, i_22, i_23, i_24, i_25, i_26, i_27, i_28, i_29, i_30, i_31, i_32, i_33, i_34, i_35, i_36, i_37, i_38, i_39, i_40, i_41, i_42, i_43, i_44, u.2.2.2.2.2.2.2.1, i_46]))), (a_11, .inl (cy 1, 30, .inl u.2.2.2.2.2.2.2.2.1)), (a_12, .inl (cy 1, 240, .inl u.2.2.2.2.2.2.2.2.2))]) (fun u : Int32 × Int32 × Int32 × Int32 × Int64 × Int32 × Int32 × Int32 × (Nat → Int32) × (Nat → Int32) => mm_rg u.1 0 600 ∧ mm_rg u.2.1 0 4 ∧ mm_rg u.2.2.1 0 600 ∧ mm_rg u.2.2.2.2.2.1 0 3 ∧ mm_rg u.2.2.2.2.2.2.2.1 1 6 ∧ mm_ar u.2.2.2.2.2.2.2.2.1 0 8 ∧ mm_ar u.2.2.2.2.2.2.2.2.2 0 9 ∧ mm_txs u.2.2.2.2.2.2.2.2.1 u.2.2.2.2.2.2.2.2.2 0 i_19 i_21 ∧ mm_txs u.2.2.2.2.2.2.2.2.1 u.2.2.2.2.2.2.2.2.2 1 i_25 i_27 ∧ mm_txs u.2.2.2.2.2.2.2.2.1 u.2.2.2.2.2.2.2.2.2 2 i_31 i_33 ∧ mm_txs u.2.2.2.2.2.2.2.2.1 u.2.2.2.2.2.2.2.2.2 3 i_37 i_39 ∧ (u.2.2.1 : Int32).toInt ≤ (u.1 : Int32).toInt ∧ (u.1 : Int32).toInt ≤ (i_1 : Int32).toInt ∧ mm_tk u.2.1 u.2.2.1 u.1 ∧ (i_4 : Int32).toInt ≤ (u.2.2.1 : Int32).toInt ∧ mm_txs u.2.2.2.2.2.2.2.2.1 u.2.2.2.2.2.2.2.2.2 4 i_43 u.2.2.2.2.2.2.2.1 ∧ mm_fr f_1 u.2.2.2.2.2.2.2.2.1 24 ∧ mm_fr f_2 u.2.2.2.2.2.2.2.2.2 192) 0 0 := by
  refine mm_begin (lv := [(0, .ref a_0)]) (by decide) (Nat.le_of_ble_eq_true rfl) rfl ?_
  intro p e s m below meth c A ls R args Q H locs hRe hQ hAe hx hb hr hlocks hml hown hnm hts hsz hA hS hP hK hD hZ hl
  have hRf : R.frames = 4 := by rw [hRe]
  have hRl : R.locals = 87 := by rw [hRe]
  have hRc : R.cells = 0 := by rw [hRe]
  have hRs : R.slots = 0 := by rw [hRe]
  refine lv_bipush (v := 24) hx hb dX12_textLine_0 (by decide) ?_
  refine lv_aload_n hx hb dX12_textLine_2 rfl (lv_at hl 0 rfl) ?_
  refine lv_iconst (v := 4) hx hb dX12_textLine_3 (by decide) ?_
  refine mm_finir (va_runV (As := [.int 4]) (rest := [.int 24]) ⟨hx, hb, hml, hown, hts⟩ (M43_X12_hasRead l G cy H.size a_0 i_0 a_1 a_2 a_3 a_4 a_5 i_1 i_2 i_3 i_4 i_5 j_0 i_6 i_7 i_8 i_9 a_6 a_7 a_8 a_9 a_10 a_11 a_12 a_13 a_14 a_15 a_16 a_17 a_18 i_10 i_11 i_12 i_13 i_14 i_15 a_19 i_16 a_20 i_17 i_18 i_19 i_20 i_21 i_22 i_23 i_24 i_25 i_26 i_27 i_28 i_29 i_30 i_31 i_32 i_33 i_34 i_35 i_36 i_37 i_38 i_39 i_40 i_41 i_42 i_43 i_44 i_45 i_46 h6 h7 h8 h9 h10 h11 h12 h13 h14 h15 h16 h17 h18 h19 h20 h21 h22 h23 h24 h25 h26 h27 h28 h29 h30 h31 h32 h33 (mm_wk h34 (by decide)) h35) (cwV 1 hts (mm_gV mm_w503 mm_w504 mm_w505 mm_w5 mm_w506) rfl rfl rfl hd_X12_hasRead ⟨by rw [hRf]; exact Nat.le_of_ble_eq_true rfl, by rw [hRl]; exact Nat.le_of_ble_eq_true rfl⟩) (mm_preV hK hZ hS hA hP hD [0, 2] rfl rfl 0 rfl rfl rfl) rfl rfl hl.1 rfl (lv_room (Nat.le_of_ble_eq_true rfl)) dX12_textLine_4 ⟨by rw [hRc]; exact Nat.le_of_ble_eq_true rfl, by rw [hRs]; exact Nat.le_of_ble_eq_true rfl⟩) hP hD hS hA [0, 2] rfl (fun _ => rfl) ?_
  clear hP hD hS
  clear H locs
  intro v1 _u H locs hw hP hD hS
  subst hw
  refine lv_iadd hx hb dX12_textLine_7 ?_
  refine lv_topi (fun v2 ev2 => ?_)
  have rv2 : mm_rg v2 24 29 := mm_add ev2 mm_k24 h34 (by decide) (by decide)
  have tv2 := mm_addEd ev2 mm_k24 h34 (by decide) (k := 24) (by decide)
  refine lv_istore_n (lv' := [(1, .int v2), (0, .ref a_0)]) hx hb dX12_textLine_8 rfl hl (by decide) rfl ?_
  clear hl
  clear ls
  intro ls hl
  refine lv_aload_n hx hb dX12_textLine_9 rfl (lv_at hl 1 rfl) ?_
  refine va_get (D := G) (ci := 12) (v := .ref a_11) (C := RX12) (T := TX12) (N := 38) hx hb hts (mm_i inlX12) hown hK.1 hP 0 rfl rfl 21 (by decide) (mm_h hts mm_w153) (fun _ h9 => h9) rfl dX12_textLine_10 ?_
  refine lv_iload_n hx hb dX12_textLine_13 rfl (lv_at hl 0 rfl) ?_
  refine lv_iconst (v := 0) hx hb dX12_textLine_14 (by decide) ?_
  refine va_iast hx hb hK.1 hP hD hS 3 1 rfl rfl (mm_in rv2 (by decide)) dX12_textLine_15 ?_
  clear hP hD hS
  clear H locs
  obtain ⟨g3, eg3⟩ : ∃ z : Nat → Int32, z = upd f_1 v2.toNatClampNeg 0 := ⟨_, rfl⟩
  rw [← eg3]
  intro H locs (hP : va_P G vwCl [(a_0, .inr (12, [.int i_0, .ref a_1, .ref a_2, .ref a_3, .ref a_4, .ref a_5, .int i_1, .int i_2, .int i_3, .int i_4, .int i_5, .long j_0, .int i_6, .int i_7, .int i_8, .int i_9, .ref a_6, .ref a_7, .ref a_8, .ref a_9, .ref a_10, .ref a_11, .ref a_12, .ref a_13, .ref a_14, .ref a_15, .ref a_16, .ref a_17, .ref a_18, .int i_10, .int i_11, .int i_12, .int i_13, .int i_14, .int i_15, .ref a_19, .int i_16, .ref a_20])), (a_5, .inl (cy 0, 600, .inl f_0)), (a_7, .inl (cy 1, 30, .inl (mm_g [i_17, i_18, i_19, i_20, i_21, i_22, i_23, i_24, i_25, i_26, i_27, i_28, i_29, i_30, i_31, i_32, i_33, i_34, i_35, i_36, i_37, i_38, i_39, i_40, i_41, i_42, i_43, i_44, i_45, i_46]))), (a_11, .inl (cy 1, 30, .inl g3)), (a_12, .inl (cy 1, 240, .inl f_2))] H) (hD : va_D A [(a_0, .inr (12, [.int i_0, .ref a_1, .ref a_2, .ref a_3, .ref a_4, .ref a_5, .int i_1, .int i_2, .int i_3, .int i_4, .int i_5, .long j_0, .int i_6, .int i_7, .int i_8, .int i_9, .ref a_6, .ref a_7, .ref a_8, .ref a_9, .ref a_10, .ref a_11, .ref a_12, .ref a_13, .ref a_14, .ref a_15, .ref a_16, .ref a_17, .ref a_18, .int i_10, .int i_11, .int i_12, .int i_13, .int i_14, .int i_15, .ref a_19, .int i_16, .ref a_20])), (a_5, .inl (cy 0, 600, .inl f_0)), (a_7, .inl (cy 1, 30, .inl (mm_g [i_17, i_18, i_19, i_20, i_21, i_22, i_23, i_24, i_25, i_26, i_27, i_28, i_29, i_30, i_31, i_32, i_33, i_34, i_35, i_36, i_37, i_38, i_39, i_40, i_41, i_42, i_43, i_44, i_45, i_46]))), (a_11, .inl (cy 1, 30, .inl g3)), (a_12, .inl (cy 1, 240, .inl f_2))]) hS
  have rg3 : mm_ar g3 0 8 := by rw [eg3]; exact mm_ar_upd (mm_ar_wk h36 (by decide)) (mm_wk mm_k0 (by decide)) _
  refine lv_aload_n hx hb dX12_textLine_16 rfl (lv_at hl 1 rfl) ?_
  refine mm_fini (va_runV (As := []) (rest := []) ⟨hx, hb, hml, hown, hts⟩ (M48_X12_wordHere l G cy H.size a_0 i_0 a_1 a_2 a_3 a_4 a_5 i_1 i_2 i_3 i_4 i_5 j_0 i_6 i_7 i_8 i_9 a_6 a_7 a_8 a_9 a_10 a_11 a_12 a_13 a_14 a_15 a_16 a_17 a_18 i_10 i_11 i_12 i_13 i_14 i_15 a_19 i_16 a_20 f_0 i_17 i_18 i_19 i_20 i_21 i_22 i_23 i_24 i_25 i_26 i_27 i_28 i_29 i_30 i_31 i_32 i_33 i_34 i_35 i_36 i_37 i_38 i_39 i_40 i_41 i_42 i_43 i_44 i_45 i_46 h0 h1 h2 h3 h4 h5 h6 h7 h8 h9 h10 h11 h12 h13 h14 h15 h16 h17 h18 h19 h20 h21 h22 h23 h24 h25 h26 h27 h28 h29 h30 h31 h32 h33 (mm_wk h34 (by decide)) h35 h42 h43 h44) (cwV 0 hts (mm_gV mm_w532 mm_w533 mm_w534 mm_w5 mm_w535) rfl rfl rfl hd_X12_wordHere ⟨by rw [hRf]; exact Nat.le_of_ble_eq_true rfl, by rw [hRl]; exact Nat.le_of_ble_eq_true rfl⟩) (mm_preV hK hZ hS hA hP hD [0, 1, 2] rfl rfl 0 rfl rfl rfl) rfl rfl hl.1 rfl (lv_room (Nat.le_of_ble_eq_true rfl)) dX12_textLine_17 ⟨by rw [hRc]; exact Nat.le_of_ble_eq_true rfl, by rw [hRs]; exact Nat.le_of_ble_eq_true rfl⟩) hP hD hS hA (fun u : Int32 × Int32 × Int32 × Int32 × Int64 × Int32 × Int32 => [(a_0, .inr (12, [.int i_0, .ref a_1, .ref a_2, .ref a_3, .ref a_4, .ref a_5, .int i_1, .int u.1, .int u.2.1, .int u.2.2.1, .int u.2.2.2.1, .long u.2.2.2.2.1, .int u.2.2.2.2.2.1, .int u.2.2.2.2.2.2, .int i_8, .int i_9, .ref a_6, .ref a_7, .ref a_8, .ref a_9, .ref a_10, .ref a_11, .ref a_12, .ref a_13, .ref a_14, .ref a_15, .ref a_16, .ref a_17, .ref a_18, .int i_10, .int i_11, .int i_12, .int i_13, .int i_14, .int i_15, .ref a_19, .int i_16, .ref a_20])), (a_5, .inl (cy 0, 600, .inl f_0)), (a_7, .inl (cy 1, 30, .inl (mm_g [i_17, i_18, i_19, i_20, i_21, i_22, i_23, i_24, i_25, i_26, i_27, i_28, i_29, i_30, i_31, i_32, i_33, i_34, i_35, i_36, i_37, i_38, i_39, i_40, i_41, i_42, i_43, i_44, i_45, i_46]))), (a_11, .inl (cy 1, 30, .inl g3)), (a_12, .inl (cy 1, 240, .inl f_2))]) [0, 1, 2] [3, 4] (n := 5) (fun _ => rfl) (by decide +kernel) (by decide +kernel) rfl (fun _ => rfl) (wr := [(a_11, .inl (cy 1, 30, .inl g3)), (a_12, .inl (cy 1, 240, .inl f_2))]) rfl (fun _ => rfl) (fun _ => @rfl _ ([a_0, a_5, a_7] : List Nat)) ?_
  clear hP hD hS
  clear H locs
  intro v11 u
  obtain ⟨n4, n5, n6, n7, n8, n9, n10⟩ := u
  intro H locs hw (hP : va_P G vwCl [(a_0, .inr (12, [.int i_0, .ref a_1, .ref a_2, .ref a_3, .ref a_4, .ref a_5, .int i_1, .int n4, .int n5, .int n6, .int n7, .long n8, .int n9, .int n10, .int i_8, .int i_9, .ref a_6, .ref a_7, .ref a_8, .ref a_9, .ref a_10, .ref a_11, .ref a_12, .ref a_13, .ref a_14, .ref a_15, .ref a_16, .ref a_17, .ref a_18, .int i_10, .int i_11, .int i_12, .int i_13, .int i_14, .int i_15, .ref a_19, .int i_16, .ref a_20])), (a_5, .inl (cy 0, 600, .inl f_0)), (a_7, .inl (cy 1, 30, .inl (mm_g [i_17, i_18, i_19, i_20, i_21, i_22, i_23, i_24, i_25, i_26, i_27, i_28, i_29, i_30, i_31, i_32, i_33, i_34, i_35, i_36, i_37, i_38, i_39, i_40, i_41, i_42, i_43, i_44, i_45, i_46]))), (a_11, .inl (cy 1, 30, .inl g3)), (a_12, .inl (cy 1, 240, .inl f_2))] H) (hD : va_D A [(a_0, .inr (12, [.int i_0, .ref a_1, .ref a_2, .ref a_3, .ref a_4, .ref a_5, .int i_1, .int n4, .int n5, .int n6, .int n7, .long n8, .int n9, .int n10, .int i_8, .int i_9, .ref a_6, .ref a_7, .ref a_8, .ref a_9, .ref a_10, .ref a_11, .ref a_12, .ref a_13, .ref a_14, .ref a_15, .ref a_16, .ref a_17, .ref a_18, .int i_10, .int i_11, .int i_12, .int i_13, .int i_14, .int i_15, .ref a_19, .int i_16, .ref a_20])), (a_5, .inl (cy 0, 600, .inl f_0)), (a_7, .inl (cy 1, 30, .inl (mm_g [i_17, i_18, i_19, i_20, i_21, i_22, i_23, i_24, i_25, i_26, i_27, i_28, i_29, i_30, i_31, i_32, i_33, i_34, i_35, i_36, i_37, i_38, i_39, i_40, i_41, i_42, i_43, i_44, i_45, i_46]))), (a_11, .inl (cy 1, 30, .inl g3)), (a_12, .inl (cy 1, 240, .inl f_2))]) hS
  obtain ⟨w12, w13, w14, w15, w16, w17, w18, w19, w20, hw⟩ := hw
  replace w16 : (n6 : Int32).toInt ≤ (n4 : Int32).toInt := w16
  replace w17 : (n4 : Int32).toInt ≤ (i_1 : Int32).toInt := w17
  replace w18 : mm_tk n5 n6 n4 := w18
  replace w19 : (i_4 : Int32).toInt ≤ (n6 : Int32).toInt := w19
  replace w20 : mm_b0 i_6 n9 := w20
  obtain ⟨w21, w22, w23⟩ := hw
  replace w22 : (v11 : Int32).toInt ≤ (i_43 : Int32).toInt := w22
  replace w23 : mm_nv n9 v11 i_3 i_5 := w23
  refine lv_istore_n (lv' := [(2, .int v11), (1, .int v2), (0, .ref a_0)]) hx hb dX12_textLine_20 rfl hl (by decide) rfl ?_
  clear hl
  clear ls
  intro ls hl
  have L21_133 : ∀ (n : Nat) (x21_2_115 : Int32) (y21_0_7_116 : Int32) (y21_0_8_117 : Int32) (y21_0_9_118 : Int32) (y21_0_10_119 : Int32) (y21_0_11_120 : Int64) (y21_0_12_121 : Int32) (y21_0_13_122 : Int32) (z21_3_123 : Nat → Int32) (z21_4_124 : Nat → Int32), mm_rg x21_2_115 0 9 → mm_rg y21_0_7_116 0 600 → mm_rg y21_0_8_117 0 4 → mm_rg y21_0_9_118 0 600 → mm_rg y21_0_12_121 0 3 → mm_ar z21_3_123 0 8 → mm_ar z21_4_124 0 9 → (y21_0_9_118 : Int32).toInt ≤ (y21_0_7_116 : Int32).toInt → (y21_0_7_116 : Int32).toInt ≤ (i_1 : Int32).toInt → mm_tk y21_0_8_117 y21_0_9_118 y21_0_7_116 → (i_4 : Int32).toInt ≤ (y21_0_9_118 : Int32).toInt → mm_b7 z21_3_123 v2 y21_0_12_121 → mm_fr f_1 z21_3_123 24 → mm_fr f_2 z21_4_124 192 → mm_txl f_1 f_2 z21_3_123 z21_4_124 v2 i_43 → (x21_2_115 : Int32).toInt ≤ (i_43 : Int32).toInt → (if (y21_0_12_121 : Int32).toInt = 0 then (8 - (z21_3_123 (v2 : Int32).toNatClampNeg).toInt).toNat + 1 else 0) < n → ∀ (H : Heap) (locs : List Loc), va_P G vwCl [(a_0, .inr (12, [.int i_0, .ref a_1, .ref a_2, .ref a_3, .ref a_4, .ref a_5, .int i_1, .int y21_0_7_116, .int y21_0_8_117, .int y21_0_9_118, .int y21_0_10_119, .long y21_0_11_120, .int y21_0_12_121, .int y21_0_13_122, .int i_8, .int i_9, .ref a_6, .ref a_7, .ref a_8, .ref a_9, .ref a_10, .ref a_11, .ref a_12, .ref a_13, .ref a_14, .ref a_15, .ref a_16, .ref a_17, .ref a_18, .int i_10, .int i_11, .int i_12, .int i_13, .int i_14, .int i_15, .ref a_19, .int i_16, .ref a_20])), (a_5, .inl (cy 0, 600, .inl f_0)), (a_7, .inl (cy 1, 30, .inl (mm_g [i_17, i_18, i_19, i_20, i_21, i_22, i_23, i_24, i_25, i_26, i_27, i_28, i_29, i_30, i_31, i_32, i_33, i_34, i_35, i_36, i_37, i_38, i_39, i_40, i_41, i_42, i_43, i_44, i_45, i_46]))), (a_11, .inl (cy 1, 30, .inl z21_3_123)), (a_12, .inl (cy 1, 240, .inl z21_4_124))] H → va_D A [(a_0, .inr (12, [.int i_0, .ref a_1, .ref a_2, .ref a_3, .ref a_4, .ref a_5, .int i_1, .int y21_0_7_116, .int y21_0_8_117, .int y21_0_9_118, .int y21_0_10_119, .long y21_0_11_120, .int y21_0_12_121, .int y21_0_13_122, .int i_8, .int i_9, .ref a_6, .ref a_7, .ref a_8, .ref a_9, .ref a_10, .ref a_11, .ref a_12, .ref a_13, .ref a_14, .ref a_15, .ref a_16, .ref a_17, .ref a_18, .int i_10, .int i_11, .int i_12, .int i_13, .int i_14, .int i_15, .ref a_19, .int i_16, .ref a_20])), (a_5, .inl (cy 0, 600, .inl f_0)), (a_7, .inl (cy 1, 30, .inl (mm_g [i_17, i_18, i_19, i_20, i_21, i_22, i_23, i_24, i_25, i_26, i_27, i_28, i_29, i_30, i_31, i_32, i_33, i_34, i_35, i_36, i_37, i_38, i_39, i_40, i_41, i_42, i_43, i_44, i_45, i_46]))), (a_11, .inl (cy 1, 30, .inl z21_3_123)), (a_12, .inl (cy 1, 240, .inl z21_4_124))] → va_S A s.heap H locs → ∀ (ls : Array Slot), lv_has ls 3 [(2, .int x21_2_115), (1, .int v2), (0, .ref a_0)] → W p l e R s m args below meth c H locs 0 0 Q (F0 m 21 ls []) := by
    intro n
    induction n with
    | zero => intro x21_2_115 y21_0_7_116 y21_0_8_117 y21_0_9_118 y21_0_10_119 y21_0_11_120 y21_0_12_121 y21_0_13_122 z21_3_123 z21_4_124 rx21_2_115 ry21_0_7_116 ry21_0_8_117 ry21_0_9_118 ry21_0_12_121 rz21_3_123 rz21_4_124 w125 w126 w127 w128 w129 w130 w131 w132 w133 hm; exact absurd hm (Nat.not_lt_zero _)
    | succ n ih21 =>
      intro x21_2_115 y21_0_7_116 y21_0_8_117 y21_0_9_118 y21_0_10_119 y21_0_11_120 y21_0_12_121 y21_0_13_122 z21_3_123 z21_4_124 rx21_2_115 ry21_0_7_116 ry21_0_8_117 ry21_0_9_118 ry21_0_12_121 rz21_3_123 rz21_4_124 w125 w126 w127 w128 w129 w130 w131 w132 w133 hm21 H locs hP hD hS ls hl
      refine lv_aload_n hx hb dX12_textLine_21 rfl (lv_at hl 2 rfl) ?_
      refine va_get (D := G) (ci := 12) (v := .int y21_0_12_121) (C := RX12) (T := TX12) (N := 38) hx hb hts (mm_i inlX12) hown hK.1 hP 0 rfl rfl 12 (by decide) (mm_h hts mm_w436) (fun _ h9 => h9) rfl dX12_textLine_22 ?_
      refine lv_if_ne (tgt := 106) hx hb dX12_textLine_25 (by decide) (fun c135 => ?_) (fun c135 => ?_)
      · have q136 := mm_neL (lo := 1) (mm_ne c135) ry21_0_12_121 mm_k0 (by decide) (by decide)
        refine lv_aload_n hx hb dX12_textLine_106 rfl (lv_at hl 2 rfl) ?_
        refine lv_iconst (v := 4) hx hb dX12_textLine_107 (by decide) ?_
        refine lv_aload_n hx hb dX12_textLine_108 rfl (lv_at hl 2 rfl) ?_
        refine lv_iconst (v := 4) hx hb dX12_textLine_109 (by decide) ?_
        refine mm_finir (va_runV (As := [.int 4]) (rest := [.int 4, .ref a_0]) ⟨hx, hb, hml, hown, hts⟩ (M43_X12_hasRead l G cy H.size a_0 i_0 a_1 a_2 a_3 a_4 a_5 i_1 y21_0_7_116 y21_0_8_117 y21_0_9_118 y21_0_10_119 y21_0_11_120 y21_0_12_121 y21_0_13_122 i_8 i_9 a_6 a_7 a_8 a_9 a_10 a_11 a_12 a_13 a_14 a_15 a_16 a_17 a_18 i_10 i_11 i_12 i_13 i_14 i_15 a_19 i_16 a_20 i_17 i_18 i_19 i_20 i_21 i_22 i_23 i_24 i_25 i_26 i_27 i_28 i_29 i_30 i_31 i_32 i_33 i_34 i_35 i_36 i_37 i_38 i_39 i_40 i_41 i_42 i_43 i_44 i_45 i_46 h6 h7 h8 h9 h10 h11 h12 h13 h14 h15 h16 h17 h18 h19 h20 h21 h22 h23 h24 h25 h26 h27 h28 h29 h30 h31 h32 h33 (mm_wk h34 (by decide)) h35) (cwV 1 hts (mm_gV mm_w503 mm_w504 mm_w505 mm_w5 mm_w506) rfl rfl rfl hd_X12_hasRead ⟨by rw [hRf]; exact Nat.le_of_ble_eq_true rfl, by rw [hRl]; exact Nat.le_of_ble_eq_true rfl⟩) (mm_preV hK hZ hS hA hP hD [0, 2] rfl rfl 0 rfl rfl rfl) rfl rfl hl.1 rfl (lv_room (Nat.le_of_ble_eq_true rfl)) dX12_textLine_110 ⟨by rw [hRc]; exact Nat.le_of_ble_eq_true rfl, by rw [hRs]; exact Nat.le_of_ble_eq_true rfl⟩) hP hD hS hA [0, 2] rfl (fun _ => rfl) ?_
        clear hP hD hS
        clear H locs
        intro v137 _u H locs hw hP hD hS
        subst hw
        refine lv_iconst (v := 1) hx hb dX12_textLine_113 (by decide) ?_
        refine lv_iadd hx hb dX12_textLine_114 ?_
        refine lv_topi (fun v138 ev138 => ?_)
        have rv138 : mm_rg v138 1 6 := mm_add ev138 h34 mm_k1 (by decide) (by decide)
        have tv138 := mm_addEc ev138 h34 mm_k1 (by decide) (k := 1) (by decide)
        refine mm_finv (va_runV (As := [.int 4, .int v138]) (rest := []) ⟨hx, hb, hml, hown, hts⟩ (M53_X12_tells l G cy H.size a_0 v138 i_0 a_1 a_2 a_3 a_4 a_5 i_1 y21_0_7_116 y21_0_8_117 y21_0_9_118 y21_0_10_119 y21_0_11_120 y21_0_12_121 y21_0_13_122 i_8 i_9 a_6 a_7 a_8 a_9 a_10 a_11 a_12 a_13 a_14 a_15 a_16 a_17 a_18 i_10 i_11 i_12 i_13 i_14 i_15 a_19 i_16 a_20 i_17 i_18 i_19 i_20 i_21 i_22 i_23 i_24 i_25 i_26 i_27 i_28 i_29 i_30 i_31 i_32 i_33 i_34 i_35 i_36 i_37 i_38 i_39 i_40 i_41 i_42 i_43 i_44 i_45 i_46 rv138 h6 h7 h8 h9 h10 h11 h12 h13 h14 h15 h16 h17 h18 h19 h20 h21 h22 h23 h24 h25 h26 h27 h28 h29 h30 h31 h32 h33 (mm_wk h34 (by decide)) h35) (cwV 2 hts (mm_gV mm_w441 mm_w442 mm_w443 mm_w5 mm_w444) rfl rfl rfl hd_X12_tells ⟨by rw [hRf]; exact Nat.le_of_ble_eq_true rfl, by rw [hRl]; exact Nat.le_of_ble_eq_true rfl⟩) (mm_preV hK hZ hS hA hP hD [0, 2] rfl rfl 0 rfl rfl rfl) rfl rfl hl.1 rfl (lv_room (Nat.le_of_ble_eq_true rfl)) dX12_textLine_115 ⟨by rw [hRc]; exact Nat.le_of_ble_eq_true rfl, by rw [hRs]; exact Nat.le_of_ble_eq_true rfl⟩) hP hD hS hA (fun u : Unit => [(a_0, .inr (12, [.int i_0, .ref a_1, .ref a_2, .ref a_3, .ref a_4, .ref a_5, .int i_1, .int y21_0_7_116, .int y21_0_8_117, .int y21_0_9_118, .int y21_0_10_119, .long y21_0_11_120, .int y21_0_12_121, .int y21_0_13_122, .int i_8, .int i_9, .ref a_6, .ref a_7, .ref a_8, .ref a_9, .ref a_10, .ref a_11, .ref a_12, .ref a_13, .ref a_14, .ref a_15, .ref a_16, .ref a_17, .ref a_18, .int i_10, .int i_11, .int i_12, .int i_13, .int i_14, .int i_15, .ref a_19, .int i_16, .ref a_20])), (a_5, .inl (cy 0, 600, .inl f_0)), (a_7, .inl (cy 1, 30, .inl (mm_g [i_17, i_18, i_19, i_20, i_21, i_22, i_23, i_24, i_25, i_26, i_27, i_28, i_29, i_30, i_31, i_32, i_33, i_34, i_35, i_36, i_37, i_38, i_39, i_40, i_41, i_42, i_43, i_44, v138, i_46]))), (a_11, .inl (cy 1, 30, .inl z21_3_123)), (a_12, .inl (cy 1, 240, .inl z21_4_124))]) [0, 2] [1, 3, 4] (n := 5) (fun _ => rfl) (by decide +kernel) (by decide +kernel) rfl (fun _ => rfl) (wr := [(a_5, .inl (cy 0, 600, .inl f_0)), (a_11, .inl (cy 1, 30, .inl z21_3_123)), (a_12, .inl (cy 1, 240, .inl z21_4_124))]) rfl (fun _ => rfl) (fun _ => @rfl _ ([a_0, a_7] : List Nat)) ?_
        clear hP hD hS
        clear H locs
        intro _u H locs hw (hP : va_P G vwCl [(a_0, .inr (12, [.int i_0, .ref a_1, .ref a_2, .ref a_3, .ref a_4, .ref a_5, .int i_1, .int y21_0_7_116, .int y21_0_8_117, .int y21_0_9_118, .int y21_0_10_119, .long y21_0_11_120, .int y21_0_12_121, .int y21_0_13_122, .int i_8, .int i_9, .ref a_6, .ref a_7, .ref a_8, .ref a_9, .ref a_10, .ref a_11, .ref a_12, .ref a_13, .ref a_14, .ref a_15, .ref a_16, .ref a_17, .ref a_18, .int i_10, .int i_11, .int i_12, .int i_13, .int i_14, .int i_15, .ref a_19, .int i_16, .ref a_20])), (a_5, .inl (cy 0, 600, .inl f_0)), (a_7, .inl (cy 1, 30, .inl (mm_g [i_17, i_18, i_19, i_20, i_21, i_22, i_23, i_24, i_25, i_26, i_27, i_28, i_29, i_30, i_31, i_32, i_33, i_34, i_35, i_36, i_37, i_38, i_39, i_40, i_41, i_42, i_43, i_44, v138, i_46]))), (a_11, .inl (cy 1, 30, .inl z21_3_123)), (a_12, .inl (cy 1, 240, .inl z21_4_124))] H) (hD : va_D A [(a_0, .inr (12, [.int i_0, .ref a_1, .ref a_2, .ref a_3, .ref a_4, .ref a_5, .int i_1, .int y21_0_7_116, .int y21_0_8_117, .int y21_0_9_118, .int y21_0_10_119, .long y21_0_11_120, .int y21_0_12_121, .int y21_0_13_122, .int i_8, .int i_9, .ref a_6, .ref a_7, .ref a_8, .ref a_9, .ref a_10, .ref a_11, .ref a_12, .ref a_13, .ref a_14, .ref a_15, .ref a_16, .ref a_17, .ref a_18, .int i_10, .int i_11, .int i_12, .int i_13, .int i_14, .int i_15, .ref a_19, .int i_16, .ref a_20])), (a_5, .inl (cy 0, 600, .inl f_0)), (a_7, .inl (cy 1, 30, .inl (mm_g [i_17, i_18, i_19, i_20, i_21, i_22, i_23, i_24, i_25, i_26, i_27, i_28, i_29, i_30, i_31, i_32, i_33, i_34, i_35, i_36, i_37, i_38, i_39, i_40, i_41, i_42, i_43, i_44, v138, i_46]))), (a_11, .inl (cy 1, 30, .inl z21_3_123)), (a_12, .inl (cy 1, 240, .inl z21_4_124))]) hS
        have w139 : mm_txs z21_3_123 z21_4_124 0 i_19 i_21 := (mm_txs_fr h38 w130 w131 (by decide))
        have w140 : mm_txs z21_3_123 z21_4_124 1 i_25 i_27 := (mm_txs_fr h39 w130 w131 (by decide))
        have w141 : mm_txs z21_3_123 z21_4_124 2 i_31 i_33 := (mm_txs_fr h40 w130 w131 (by decide))
        have w142 : mm_txs z21_3_123 z21_4_124 3 i_37 i_39 := (mm_txs_fr h41 w130 w131 (by decide))
        have w143 : mm_txs z21_3_123 z21_4_124 4 i_43 v138 := (mm_txs_t h45 w132 (by have := tv2; omega) (by have := tv138; omega) h34 (by decide))
        subst hAe
        rw [hQ]
        exact W.vret hx hb hr (fun t ht hW => ⟨⟨(y21_0_7_116, y21_0_8_117, y21_0_9_118, y21_0_10_119, y21_0_11_120, y21_0_12_121, y21_0_13_122, v138, z21_3_123, z21_4_124), rfl, ⟨ry21_0_7_116, ry21_0_8_117, ry21_0_9_118, (mm_wk q136 (by decide)), rv138, rz21_3_123, rz21_4_124, w139, w140, w141, w142, w125, w126, w127, w128, w143, w130, w131⟩, by rw [ht]; exact hP, hK.warm hW, hD⟩, hS.F ht⟩) hS.2.2 dX12_textLine_118
      · have q144 := mm_eqI (lo := 0) (hi := 0) c135 ry21_0_12_121 mm_k0 (by decide)
        refine lv_aload_n hx hb dX12_textLine_28 rfl (lv_at hl 2 rfl) ?_
        refine va_get (D := G) (ci := 12) (v := .ref a_12) (C := RX12) (T := TX12) (N := 38) hx hb hts (mm_i inlX12) hown hK.1 hP 0 rfl rfl 22 (by decide) (mm_h hts mm_w154) (fun _ h9 => h9) rfl dX12_textLine_29 ?_
        refine lv_bipush (v := 8) hx hb dX12_textLine_32 (by decide) ?_
        refine lv_iload_n hx hb dX12_textLine_34 rfl (lv_at hl 1 rfl) ?_
        refine lv_imul hx hb dX12_textLine_35 ?_
        refine lv_topi (fun v145 ev145 => ?_)
        have rv145 : mm_rg v145 192 232 := mm_mul ev145 mm_k8 rv2 (by decide) (by decide)
        have tv145 := mm_mulEc ev145 mm_k8 rv2 (by decide) (k := 8) (by decide)
        refine lv_aload_n hx hb dX12_textLine_36 rfl (lv_at hl 2 rfl) ?_
        refine va_get (D := G) (ci := 12) (v := .ref a_11) (C := RX12) (T := TX12) (N := 38) hx hb hts (mm_i inlX12) hown hK.1 hP 0 rfl rfl 21 (by decide) (mm_h hts mm_w153) (fun _ h9 => h9) rfl dX12_textLine_37 ?_
        refine lv_iload_n hx hb dX12_textLine_40 rfl (lv_at hl 1 rfl) ?_
        refine va_iald hx hb hK.1 hP 3 1 rfl rfl (mm_in rv2 (by decide)) dX12_textLine_41 ?_
        refine lv_topi (fun v146 ev146 => ?_)
        have rv146 : mm_rg v146 0 8 := mm_eqv ev146 (rz21_3_123 _)
        have q147 : mm_rg v146 0 7 := mm_b7_ld w129 q144 ev146 rv146 (by decide)
        refine lv_iadd hx hb dX12_textLine_42 ?_
        refine lv_topi (fun v148 ev148 => ?_)
        have rv148 : mm_rg v148 192 239 := mm_add ev148 rv145 q147 (by decide) (by decide)
        have tv148 := mm_addE ev148 rv145 q147 (by decide)
        refine lv_iload_n hx hb dX12_textLine_43 rfl (lv_at hl 0 rfl) ?_
        refine va_iast hx hb hK.1 hP hD hS 4 1 rfl rfl (mm_in rv148 (by decide)) dX12_textLine_44 ?_
        clear hP hD hS
        clear H locs
        obtain ⟨g149, eg149⟩ : ∃ z : Nat → Int32, z = upd z21_4_124 v148.toNatClampNeg x21_2_115 := ⟨_, rfl⟩
        rw [← eg149]
        intro H locs (hP : va_P G vwCl [(a_0, .inr (12, [.int i_0, .ref a_1, .ref a_2, .ref a_3, .ref a_4, .ref a_5, .int i_1, .int y21_0_7_116, .int y21_0_8_117, .int y21_0_9_118, .int y21_0_10_119, .long y21_0_11_120, .int y21_0_12_121, .int y21_0_13_122, .int i_8, .int i_9, .ref a_6, .ref a_7, .ref a_8, .ref a_9, .ref a_10, .ref a_11, .ref a_12, .ref a_13, .ref a_14, .ref a_15, .ref a_16, .ref a_17, .ref a_18, .int i_10, .int i_11, .int i_12, .int i_13, .int i_14, .int i_15, .ref a_19, .int i_16, .ref a_20])), (a_5, .inl (cy 0, 600, .inl f_0)), (a_7, .inl (cy 1, 30, .inl (mm_g [i_17, i_18, i_19, i_20, i_21, i_22, i_23, i_24, i_25, i_26, i_27, i_28, i_29, i_30, i_31, i_32, i_33, i_34, i_35, i_36, i_37, i_38, i_39, i_40, i_41, i_42, i_43, i_44, i_45, i_46]))), (a_11, .inl (cy 1, 30, .inl z21_3_123)), (a_12, .inl (cy 1, 240, .inl g149))] H) (hD : va_D A [(a_0, .inr (12, [.int i_0, .ref a_1, .ref a_2, .ref a_3, .ref a_4, .ref a_5, .int i_1, .int y21_0_7_116, .int y21_0_8_117, .int y21_0_9_118, .int y21_0_10_119, .long y21_0_11_120, .int y21_0_12_121, .int y21_0_13_122, .int i_8, .int i_9, .ref a_6, .ref a_7, .ref a_8, .ref a_9, .ref a_10, .ref a_11, .ref a_12, .ref a_13, .ref a_14, .ref a_15, .ref a_16, .ref a_17, .ref a_18, .int i_10, .int i_11, .int i_12, .int i_13, .int i_14, .int i_15, .ref a_19, .int i_16, .ref a_20])), (a_5, .inl (cy 0, 600, .inl f_0)), (a_7, .inl (cy 1, 30, .inl (mm_g [i_17, i_18, i_19, i_20, i_21, i_22, i_23, i_24, i_25, i_26, i_27, i_28, i_29, i_30, i_31, i_32, i_33, i_34, i_35, i_36, i_37, i_38, i_39, i_40, i_41, i_42, i_43, i_44, i_45, i_46]))), (a_11, .inl (cy 1, 30, .inl z21_3_123)), (a_12, .inl (cy 1, 240, .inl g149))]) hS
        have rg149 : mm_ar g149 0 9 := by rw [eg149]; exact mm_ar_upd (mm_ar_wk rz21_4_124 (by decide)) (mm_wk rx21_2_115 (by decide)) _
        refine lv_aload_n hx hb dX12_textLine_45 rfl (lv_at hl 2 rfl) ?_
        refine va_get (D := G) (ci := 12) (v := .ref a_11) (C := RX12) (T := TX12) (N := 38) hx hb hts (mm_i inlX12) hown hK.1 hP 0 rfl rfl 21 (by decide) (mm_h hts mm_w153) (fun _ h9 => h9) rfl dX12_textLine_46 ?_
        refine lv_iload_n hx hb dX12_textLine_49 rfl (lv_at hl 1 rfl) ?_
        refine lv_dup2_11 hx hb dX12_textLine_50 rfl rfl ?_
        refine va_iald hx hb hK.1 hP 3 1 rfl rfl (mm_in rv2 (by decide)) dX12_textLine_51 ?_
        refine lv_topi (fun v150 ev150 => ?_)
        have rv150 : mm_rg v150 0 8 := mm_eqv ev150 (rz21_3_123 _)
        have q151 : mm_rg v150 0 7 := mm_b7_ld w129 q144 ev150 rv150 (by decide)
        obtain rfl : v146 = v150 := ev146.trans ev150.symm
        refine lv_iconst (v := 1) hx hb dX12_textLine_52 (by decide) ?_
        refine lv_iadd hx hb dX12_textLine_53 ?_
        refine lv_topi (fun v152 ev152 => ?_)
        have rv152 : mm_rg v152 1 8 := mm_add ev152 q147 mm_k1 (by decide) (by decide)
        have tv152 := mm_addEc ev152 q147 mm_k1 (by decide) (k := 1) (by decide)
        refine va_iast hx hb hK.1 hP hD hS 3 1 rfl rfl (mm_in rv2 (by decide)) dX12_textLine_54 ?_
        clear hP hD hS
        clear H locs
        obtain ⟨g153, eg153⟩ : ∃ z : Nat → Int32, z = upd z21_3_123 v2.toNatClampNeg v152 := ⟨_, rfl⟩
        rw [← eg153]
        intro H locs (hP : va_P G vwCl [(a_0, .inr (12, [.int i_0, .ref a_1, .ref a_2, .ref a_3, .ref a_4, .ref a_5, .int i_1, .int y21_0_7_116, .int y21_0_8_117, .int y21_0_9_118, .int y21_0_10_119, .long y21_0_11_120, .int y21_0_12_121, .int y21_0_13_122, .int i_8, .int i_9, .ref a_6, .ref a_7, .ref a_8, .ref a_9, .ref a_10, .ref a_11, .ref a_12, .ref a_13, .ref a_14, .ref a_15, .ref a_16, .ref a_17, .ref a_18, .int i_10, .int i_11, .int i_12, .int i_13, .int i_14, .int i_15, .ref a_19, .int i_16, .ref a_20])), (a_5, .inl (cy 0, 600, .inl f_0)), (a_7, .inl (cy 1, 30, .inl (mm_g [i_17, i_18, i_19, i_20, i_21, i_22, i_23, i_24, i_25, i_26, i_27, i_28, i_29, i_30, i_31, i_32, i_33, i_34, i_35, i_36, i_37, i_38, i_39, i_40, i_41, i_42, i_43, i_44, i_45, i_46]))), (a_11, .inl (cy 1, 30, .inl g153)), (a_12, .inl (cy 1, 240, .inl g149))] H) (hD : va_D A [(a_0, .inr (12, [.int i_0, .ref a_1, .ref a_2, .ref a_3, .ref a_4, .ref a_5, .int i_1, .int y21_0_7_116, .int y21_0_8_117, .int y21_0_9_118, .int y21_0_10_119, .long y21_0_11_120, .int y21_0_12_121, .int y21_0_13_122, .int i_8, .int i_9, .ref a_6, .ref a_7, .ref a_8, .ref a_9, .ref a_10, .ref a_11, .ref a_12, .ref a_13, .ref a_14, .ref a_15, .ref a_16, .ref a_17, .ref a_18, .int i_10, .int i_11, .int i_12, .int i_13, .int i_14, .int i_15, .ref a_19, .int i_16, .ref a_20])), (a_5, .inl (cy 0, 600, .inl f_0)), (a_7, .inl (cy 1, 30, .inl (mm_g [i_17, i_18, i_19, i_20, i_21, i_22, i_23, i_24, i_25, i_26, i_27, i_28, i_29, i_30, i_31, i_32, i_33, i_34, i_35, i_36, i_37, i_38, i_39, i_40, i_41, i_42, i_43, i_44, i_45, i_46]))), (a_11, .inl (cy 1, 30, .inl g153)), (a_12, .inl (cy 1, 240, .inl g149))]) hS
        have rg153 : mm_ar g153 0 8 := by rw [eg153]; exact mm_ar_upd (mm_ar_wk rz21_3_123 (by decide)) (mm_wk rv152 (by decide)) _
        refine lv_aload_n hx hb dX12_textLine_55 rfl (lv_at hl 2 rfl) ?_
        refine va_get (D := G) (ci := 12) (v := .int y21_0_8_117) (C := RX12) (T := TX12) (N := 38) hx hb hts (mm_i inlX12) hown hK.1 hP 0 rfl rfl 8 (by decide) (mm_h hts mm_w432) (fun _ h9 => h9) rfl dX12_textLine_56 ?_
        refine lv_iconst (v := 2) hx hb dX12_textLine_59 (by decide) ?_
        refine lv_icmp_eq (tgt := 66) hx hb dX12_textLine_60 (by decide) (fun c154 => ?_) (fun c154 => ?_)
        · have q155 := mm_eqI (lo := 2) (hi := 2) c154 ry21_0_8_117 mm_k2 (by decide)
          refine lv_aload_n hx hb dX12_textLine_66 rfl (lv_at hl 2 rfl) ?_
          refine va_get (D := G) (ci := 12) (v := .ref a_11) (C := RX12) (T := TX12) (N := 38) hx hb hts (mm_i inlX12) hown hK.1 hP 0 rfl rfl 21 (by decide) (mm_h hts mm_w153) (fun _ h9 => h9) rfl dX12_textLine_67 ?_
          refine lv_iload_n hx hb dX12_textLine_70 rfl (lv_at hl 1 rfl) ?_
          refine va_iald hx hb hK.1 hP 3 1 rfl rfl (mm_in rv2 (by decide)) dX12_textLine_71 ?_
          refine lv_topi (fun v156 ev156 => ?_)
          obtain rfl : v152 = v156 := (ev156.trans (by rw [eg153]; exact pk_us)).symm
          refine lv_bipush (v := 8) hx hb dX12_textLine_72 (by decide) ?_
          refine lv_icmp_ne (tgt := 98) hx hb dX12_textLine_74 (by decide) (fun c157 => ?_) (fun c157 => ?_)
          · have q158 := mm_neH (hi := 7) (mm_ne c157) rv152 mm_k8 (by decide) (by decide)
            have q159 : mm_rg v146 0 6 := mm_unadd tv152 q158 q147 (by decide) (by decide)
            refine lv_aload_n hx hb dX12_textLine_98 rfl (lv_at hl 2 rfl) ?_
            refine mm_fini (va_runV (As := []) (rest := []) ⟨hx, hb, hml, hown, hts⟩ (M50_X12_wordHere l G cy H.size a_0 i_0 a_1 a_2 a_3 a_4 a_5 i_1 y21_0_7_116 y21_0_8_117 y21_0_9_118 y21_0_10_119 y21_0_11_120 y21_0_12_121 y21_0_13_122 i_8 i_9 a_6 a_7 a_8 a_9 a_10 a_11 a_12 a_13 a_14 a_15 a_16 a_17 a_18 i_10 i_11 i_12 i_13 i_14 i_15 a_19 i_16 a_20 f_0 i_17 i_18 i_19 i_20 i_21 i_22 i_23 i_24 i_25 i_26 i_27 i_28 i_29 i_30 i_31 i_32 i_33 i_34 i_35 i_36 i_37 i_38 i_39 i_40 i_41 i_42 i_43 i_44 i_45 i_46 h0 ry21_0_7_116 (mm_wk q155 (by decide)) ry21_0_9_118 q144 h5 h6 h7 h8 h9 h10 h11 h12 h13 h14 h15 h16 h17 h18 h19 h20 h21 h22 h23 h24 h25 h26 h27 h28 h29 h30 h31 h32 h33 (mm_wk h34 (by decide)) h35 w125 w126 w127) (cwV 0 hts (mm_gV mm_w532 mm_w533 mm_w534 mm_w5 mm_w535) rfl rfl rfl hd_X12_wordHere ⟨by rw [hRf]; exact Nat.le_of_ble_eq_true rfl, by rw [hRl]; exact Nat.le_of_ble_eq_true rfl⟩) (mm_preV hK hZ hS hA hP hD [0, 1, 2] rfl rfl 0 rfl rfl rfl) rfl rfl hl.1 rfl (lv_room (Nat.le_of_ble_eq_true rfl)) dX12_textLine_99 ⟨by rw [hRc]; exact Nat.le_of_ble_eq_true rfl, by rw [hRs]; exact Nat.le_of_ble_eq_true rfl⟩) hP hD hS hA (fun u : Int32 × Int32 × Int32 × Int32 × Int64 × Int32 × Int32 => [(a_0, .inr (12, [.int i_0, .ref a_1, .ref a_2, .ref a_3, .ref a_4, .ref a_5, .int i_1, .int u.1, .int u.2.1, .int u.2.2.1, .int u.2.2.2.1, .long u.2.2.2.2.1, .int u.2.2.2.2.2.1, .int u.2.2.2.2.2.2, .int i_8, .int i_9, .ref a_6, .ref a_7, .ref a_8, .ref a_9, .ref a_10, .ref a_11, .ref a_12, .ref a_13, .ref a_14, .ref a_15, .ref a_16, .ref a_17, .ref a_18, .int i_10, .int i_11, .int i_12, .int i_13, .int i_14, .int i_15, .ref a_19, .int i_16, .ref a_20])), (a_5, .inl (cy 0, 600, .inl f_0)), (a_7, .inl (cy 1, 30, .inl (mm_g [i_17, i_18, i_19, i_20, i_21, i_22, i_23, i_24, i_25, i_26, i_27, i_28, i_29, i_30, i_31, i_32, i_33, i_34, i_35, i_36, i_37, i_38, i_39, i_40, i_41, i_42, i_43, i_44, i_45, i_46]))), (a_11, .inl (cy 1, 30, .inl g153)), (a_12, .inl (cy 1, 240, .inl g149))]) [0, 1, 2] [3, 4] (n := 5) (fun _ => rfl) (by decide +kernel) (by decide +kernel) rfl (fun _ => rfl) (wr := [(a_11, .inl (cy 1, 30, .inl g153)), (a_12, .inl (cy 1, 240, .inl g149))]) rfl (fun _ => rfl) (fun _ => @rfl _ ([a_0, a_5, a_7] : List Nat)) ?_
            clear hP hD hS
            clear H locs
            intro v167 u
            obtain ⟨n160, n161, n162, n163, n164, n165, n166⟩ := u
            intro H locs hw (hP : va_P G vwCl [(a_0, .inr (12, [.int i_0, .ref a_1, .ref a_2, .ref a_3, .ref a_4, .ref a_5, .int i_1, .int n160, .int n161, .int n162, .int n163, .long n164, .int n165, .int n166, .int i_8, .int i_9, .ref a_6, .ref a_7, .ref a_8, .ref a_9, .ref a_10, .ref a_11, .ref a_12, .ref a_13, .ref a_14, .ref a_15, .ref a_16, .ref a_17, .ref a_18, .int i_10, .int i_11, .int i_12, .int i_13, .int i_14, .int i_15, .ref a_19, .int i_16, .ref a_20])), (a_5, .inl (cy 0, 600, .inl f_0)), (a_7, .inl (cy 1, 30, .inl (mm_g [i_17, i_18, i_19, i_20, i_21, i_22, i_23, i_24, i_25, i_26, i_27, i_28, i_29, i_30, i_31, i_32, i_33, i_34, i_35, i_36, i_37, i_38, i_39, i_40, i_41, i_42, i_43, i_44, i_45, i_46]))), (a_11, .inl (cy 1, 30, .inl g153)), (a_12, .inl (cy 1, 240, .inl g149))] H) (hD : va_D A [(a_0, .inr (12, [.int i_0, .ref a_1, .ref a_2, .ref a_3, .ref a_4, .ref a_5, .int i_1, .int n160, .int n161, .int n162, .int n163, .long n164, .int n165, .int n166, .int i_8, .int i_9, .ref a_6, .ref a_7, .ref a_8, .ref a_9, .ref a_10, .ref a_11, .ref a_12, .ref a_13, .ref a_14, .ref a_15, .ref a_16, .ref a_17, .ref a_18, .int i_10, .int i_11, .int i_12, .int i_13, .int i_14, .int i_15, .ref a_19, .int i_16, .ref a_20])), (a_5, .inl (cy 0, 600, .inl f_0)), (a_7, .inl (cy 1, 30, .inl (mm_g [i_17, i_18, i_19, i_20, i_21, i_22, i_23, i_24, i_25, i_26, i_27, i_28, i_29, i_30, i_31, i_32, i_33, i_34, i_35, i_36, i_37, i_38, i_39, i_40, i_41, i_42, i_43, i_44, i_45, i_46]))), (a_11, .inl (cy 1, 30, .inl g153)), (a_12, .inl (cy 1, 240, .inl g149))]) hS
            obtain ⟨w168, w169, w170, w171, w172, w173, w174, w175, w176, hw⟩ := hw
            replace w172 : (n162 : Int32).toInt ≤ (n160 : Int32).toInt := w172
            replace w173 : (n160 : Int32).toInt ≤ (i_1 : Int32).toInt := w173
            replace w174 : mm_tk n161 n162 n160 := w174
            replace w175 : (y21_0_9_118 : Int32).toInt ≤ (n162 : Int32).toInt := w175
            replace w176 : mm_b0 y21_0_12_121 n165 := w176
            obtain ⟨w177, w178, w179⟩ := hw
            replace w178 : (v167 : Int32).toInt ≤ (i_43 : Int32).toInt := w178
            replace w179 : mm_nv n165 v167 y21_0_8_117 y21_0_10_119 := w179
            refine lv_istore_n (lv' := [(2, .int v167), (1, .int v2), (0, .ref a_0)]) hx hb dX12_textLine_102 rfl hl (by decide) rfl ?_
            clear hl
            clear ls
            intro ls hl
            refine lv_goto (tgt := 21) hx hb dX12_textLine_103 (by decide) ?_
            exact ih21 v167 n160 n161 n162 n163 n164 n165 n166 g153 g149 w177 w168 w169 w170 w171 rg153 rg149 w172 w173 w174 (by have := w128; have := w175; omega) (mm_b7_u eg153 q158 (by decide)) (mm_fr_u w130 eg153 rv2 (by decide)) (mm_fr_u w131 eg149 rv148 (by decide)) (mm_txl_s w132 eg153 eg149 ev146 tv152 (by have := tv148; have := tv145; omega) w133 rx21_2_115 q159 rv2 (by decide)) w178 (mm_tmM hm21 q144 ev146 eg153 tv152 q159 (by decide)) H locs hP hD hS ls (lv_sub hl [0, 1, 2] rfl)
          · have q180 := mm_eqI (lo := 8) (hi := 8) c157 rv152 mm_k8 (by decide)
            have q181 : mm_rg v146 7 7 := mm_unadd tv152 q180 q147 (by decide) (by decide)
            refine lv_aload_n hx hb dX12_textLine_77 rfl (lv_at hl 2 rfl) ?_
            refine lv_aload_n hx hb dX12_textLine_78 rfl (lv_at hl 2 rfl) ?_
            refine va_get (D := G) (ci := 12) (v := .int y21_0_10_119) (C := RX12) (T := TX12) (N := 38) hx hb hts (mm_i inlX12) hown hK.1 hP 0 rfl rfl 10 (by decide) (mm_h hts mm_w456) (fun _ h9 => h9) rfl dX12_textLine_79 ?_
            refine lv_aload_n hx hb dX12_textLine_82 rfl (lv_at hl 2 rfl) ?_
            refine lv_iconst (v := 2) hx hb dX12_textLine_83 (by decide) ?_
            refine mm_finir (va_runV (As := [.int 2]) (rest := [.int y21_0_10_119, .ref a_0]) ⟨hx, hb, hml, hown, hts⟩ (M37_X12_hasRead l G cy H.size a_0 i_0 a_1 a_2 a_3 a_4 a_5 i_1 y21_0_7_116 y21_0_8_117 y21_0_9_118 y21_0_10_119 y21_0_11_120 y21_0_12_121 y21_0_13_122 i_8 i_9 a_6 a_7 a_8 a_9 a_10 a_11 a_12 a_13 a_14 a_15 a_16 a_17 a_18 i_10 i_11 i_12 i_13 i_14 i_15 a_19 i_16 a_20 i_17 i_18 i_19 i_20 i_21 i_22 i_23 i_24 i_25 i_26 i_27 i_28 i_29 i_30 i_31 i_32 i_33 i_34 i_35 i_36 i_37 i_38 i_39 i_40 i_41 i_42 i_43 i_44 i_45 i_46 h6 h7 h8 h9 h10 h11 h12 h13 h14 h15 h16 h17 h18 h19 h20 h21 h22 h23 h24 h25 h26 h27 h28 h29 h30 h31 h32 h33 (mm_wk h34 (by decide)) h35) (cwV 1 hts (mm_gV mm_w503 mm_w504 mm_w505 mm_w5 mm_w506) rfl rfl rfl hd_X12_hasRead ⟨by rw [hRf]; exact Nat.le_of_ble_eq_true rfl, by rw [hRl]; exact Nat.le_of_ble_eq_true rfl⟩) (mm_preV hK hZ hS hA hP hD [0, 2] rfl rfl 0 rfl rfl rfl) rfl rfl hl.1 rfl (lv_room (Nat.le_of_ble_eq_true rfl)) dX12_textLine_84 ⟨by rw [hRc]; exact Nat.le_of_ble_eq_true rfl, by rw [hRs]; exact Nat.le_of_ble_eq_true rfl⟩) hP hD hS hA [0, 2] rfl (fun _ => rfl) ?_
            clear hP hD hS
            clear H locs
            intro v182 _u H locs hw hP hD hS
            subst hw
            refine lv_icmp_gt (tgt := 94) hx hb dX12_textLine_87 (by decide) (fun c183 => ?_) (fun c183 => ?_)
            · have q184 := mm_ltR (lo := 1) (mm_lt c183) h32 (mm_top y21_0_10_119) (by decide)
              refine lv_iconst (v := 2) hx hb dX12_textLine_94 (by decide) ?_
              refine mm_finv (va_runV (As := [.int 2]) (rest := []) ⟨hx, hb, hml, hown, hts⟩ (M29_X12_fails l G cy H.size a_0 i_0 a_1 a_2 a_3 a_4 a_5 i_1 y21_0_7_116 y21_0_8_117 y21_0_9_118 y21_0_10_119 y21_0_11_120 y21_0_12_121 y21_0_13_122 i_8 i_9 a_6 a_7 a_8 a_9 a_10 a_11 a_12 a_13 a_14 a_15 a_16 a_17 a_18 i_10 i_11 i_12 i_13 i_14 i_15 a_19 i_16 a_20 ry21_0_9_118 (mm_wk q144 (by decide))) (cwV 1 hts (mm_gV mm_w483 mm_w484 mm_w485 mm_w5 mm_w486) rfl rfl rfl hd_X12_fails ⟨by rw [hRf]; exact Nat.le_of_ble_eq_true rfl, by rw [hRl]; exact Nat.le_of_ble_eq_true rfl⟩) (mm_preV hK hZ hS hA hP hD [0] rfl rfl 0 rfl rfl rfl) rfl rfl hl.1 rfl (lv_room (Nat.le_of_ble_eq_true rfl)) dX12_textLine_95 ⟨by rw [hRc]; exact Nat.le_of_ble_eq_true rfl, by rw [hRs]; exact Nat.le_of_ble_eq_true rfl⟩) hP hD hS hA (fun u : Int32 × Int32 => [(a_0, .inr (12, [.int i_0, .ref a_1, .ref a_2, .ref a_3, .ref a_4, .ref a_5, .int i_1, .int y21_0_7_116, .int y21_0_8_117, .int y21_0_9_118, .int y21_0_10_119, .long y21_0_11_120, .int u.1, .int u.2, .int i_8, .int i_9, .ref a_6, .ref a_7, .ref a_8, .ref a_9, .ref a_10, .ref a_11, .ref a_12, .ref a_13, .ref a_14, .ref a_15, .ref a_16, .ref a_17, .ref a_18, .int i_10, .int i_11, .int i_12, .int i_13, .int i_14, .int i_15, .ref a_19, .int i_16, .ref a_20])), (a_5, .inl (cy 0, 600, .inl f_0)), (a_7, .inl (cy 1, 30, .inl (mm_g [i_17, i_18, i_19, i_20, i_21, i_22, i_23, i_24, i_25, i_26, i_27, i_28, i_29, i_30, i_31, i_32, i_33, i_34, i_35, i_36, i_37, i_38, i_39, i_40, i_41, i_42, i_43, i_44, i_45, i_46]))), (a_11, .inl (cy 1, 30, .inl g153)), (a_12, .inl (cy 1, 240, .inl g149))]) [0] [1, 2, 3, 4] (n := 5) (fun _ => rfl) (by decide +kernel) (by decide +kernel) rfl (fun _ => rfl) (wr := [(a_5, .inl (cy 0, 600, .inl f_0)), (a_7, .inl (cy 1, 30, .inl (mm_g [i_17, i_18, i_19, i_20, i_21, i_22, i_23, i_24, i_25, i_26, i_27, i_28, i_29, i_30, i_31, i_32, i_33, i_34, i_35, i_36, i_37, i_38, i_39, i_40, i_41, i_42, i_43, i_44, i_45, i_46]))), (a_11, .inl (cy 1, 30, .inl g153)), (a_12, .inl (cy 1, 240, .inl g149))]) rfl (fun _ => rfl) (fun _ => rfl) ?_
              clear hP hD hS
              clear H locs
              intro u
              obtain ⟨n185, n186⟩ := u
              intro H locs hw (hP : va_P G vwCl [(a_0, .inr (12, [.int i_0, .ref a_1, .ref a_2, .ref a_3, .ref a_4, .ref a_5, .int i_1, .int y21_0_7_116, .int y21_0_8_117, .int y21_0_9_118, .int y21_0_10_119, .long y21_0_11_120, .int n185, .int n186, .int i_8, .int i_9, .ref a_6, .ref a_7, .ref a_8, .ref a_9, .ref a_10, .ref a_11, .ref a_12, .ref a_13, .ref a_14, .ref a_15, .ref a_16, .ref a_17, .ref a_18, .int i_10, .int i_11, .int i_12, .int i_13, .int i_14, .int i_15, .ref a_19, .int i_16, .ref a_20])), (a_5, .inl (cy 0, 600, .inl f_0)), (a_7, .inl (cy 1, 30, .inl (mm_g [i_17, i_18, i_19, i_20, i_21, i_22, i_23, i_24, i_25, i_26, i_27, i_28, i_29, i_30, i_31, i_32, i_33, i_34, i_35, i_36, i_37, i_38, i_39, i_40, i_41, i_42, i_43, i_44, i_45, i_46]))), (a_11, .inl (cy 1, 30, .inl g153)), (a_12, .inl (cy 1, 240, .inl g149))] H) (hD : va_D A [(a_0, .inr (12, [.int i_0, .ref a_1, .ref a_2, .ref a_3, .ref a_4, .ref a_5, .int i_1, .int y21_0_7_116, .int y21_0_8_117, .int y21_0_9_118, .int y21_0_10_119, .long y21_0_11_120, .int n185, .int n186, .int i_8, .int i_9, .ref a_6, .ref a_7, .ref a_8, .ref a_9, .ref a_10, .ref a_11, .ref a_12, .ref a_13, .ref a_14, .ref a_15, .ref a_16, .ref a_17, .ref a_18, .int i_10, .int i_11, .int i_12, .int i_13, .int i_14, .int i_15, .ref a_19, .int i_16, .ref a_20])), (a_5, .inl (cy 0, 600, .inl f_0)), (a_7, .inl (cy 1, 30, .inl (mm_g [i_17, i_18, i_19, i_20, i_21, i_22, i_23, i_24, i_25, i_26, i_27, i_28, i_29, i_30, i_31, i_32, i_33, i_34, i_35, i_36, i_37, i_38, i_39, i_40, i_41, i_42, i_43, i_44, i_45, i_46]))), (a_11, .inl (cy 1, 30, .inl g153)), (a_12, .inl (cy 1, 240, .inl g149))]) hS
              have w187 := hw
              refine lv_aload_n hx hb dX12_textLine_98 rfl (lv_at hl 2 rfl) ?_
              refine mm_finir (va_runV (As := []) (rest := []) ⟨hx, hb, hml, hown, hts⟩ (M52_X12_wordHere l G cy H.size a_0 i_0 a_1 a_2 a_3 a_4 a_5 i_1 y21_0_7_116 y21_0_8_117 y21_0_9_118 y21_0_10_119 y21_0_11_120 n185 n186 i_8 i_9 a_6 a_7 a_8 a_9 a_10 a_11 a_12 a_13 a_14 a_15 a_16 a_17 a_18 i_10 i_11 i_12 i_13 i_14 i_15 a_19 i_16 a_20 i_17 i_18 i_19 i_20 i_21 i_22 i_23 i_24 i_25 i_26 i_27 i_28 i_29 i_30 i_31 i_32 i_33 i_34 i_35 i_36 i_37 i_38 i_39 i_40 i_41 i_42 i_43 i_44 i_45 i_46 ry21_0_7_116 (mm_wk q155 (by decide)) ry21_0_9_118 w187 h6 h7 h8 h9 h10 h11 h12 h13 h14 h15 h16 h17 h18 h19 h20 h21 h22 h23 h24 h25 h26 h27 h28 h29 h30 h31 h32 h33 (mm_wk h34 (by decide)) h35 w125 w126 w127) (cwV 0 hts (mm_gV mm_w532 mm_w533 mm_w534 mm_w5 mm_w535) rfl rfl rfl hd_X12_wordHere ⟨by rw [hRf]; exact Nat.le_of_ble_eq_true rfl, by rw [hRl]; exact Nat.le_of_ble_eq_true rfl⟩) (mm_preV hK hZ hS hA hP hD [0, 2] rfl rfl 0 rfl rfl rfl) rfl rfl hl.1 rfl (lv_room (Nat.le_of_ble_eq_true rfl)) dX12_textLine_99 ⟨by rw [hRc]; exact Nat.le_of_ble_eq_true rfl, by rw [hRs]; exact Nat.le_of_ble_eq_true rfl⟩) hP hD hS hA [0, 2] rfl (fun _ => rfl) ?_
              clear hP hD hS
              clear H locs
              intro v188 _u H locs hw hP hD hS
              obtain ⟨rfl, w189, w190⟩ := hw
              refine lv_istore_n (lv' := [(2, .int 0), (1, .int v2), (0, .ref a_0)]) hx hb dX12_textLine_102 rfl hl (by decide) rfl ?_
              clear hl
              clear ls
              intro ls hl
              refine lv_goto (tgt := 21) hx hb dX12_textLine_103 (by decide) ?_
              exact ih21 0 y21_0_7_116 y21_0_8_117 y21_0_9_118 y21_0_10_119 y21_0_11_120 n185 n186 g153 g149 (mm_wk mm_k0 (by decide)) ry21_0_7_116 (mm_wk q155 (by decide)) ry21_0_9_118 (mm_wk w187 (by decide)) rg153 rg149 w125 w126 w127 w128 (mm_b7_n w187 (by decide)) (mm_fr_u w130 eg153 rv2 (by decide)) (mm_fr_u w131 eg149 rv148 (by decide)) (mm_txl_s w132 eg153 eg149 ev146 tv152 (by have := tv148; have := tv145; omega) w133 rx21_2_115 q181 rv2 (by decide)) w189 (mm_tmM hm21 q144 ev146 eg153 tv152 q181 (by decide)) H locs hP hD hS ls (lv_sub hl [0, 1, 2] rfl)
            · have q191 := mm_leL (mm_nlt c183) (mm_top y21_0_10_119) h32
              refine lv_iconst (v := 3) hx hb dX12_textLine_90 (by decide) ?_
              refine lv_goto (tgt := 95) hx hb dX12_textLine_91 (by decide) ?_
              refine mm_finv (va_runV (As := [.int 3]) (rest := []) ⟨hx, hb, hml, hown, hts⟩ (M45_X12_fails l G cy H.size a_0 i_0 a_1 a_2 a_3 a_4 a_5 i_1 y21_0_7_116 y21_0_8_117 y21_0_9_118 y21_0_10_119 y21_0_11_120 y21_0_12_121 y21_0_13_122 i_8 i_9 a_6 a_7 a_8 a_9 a_10 a_11 a_12 a_13 a_14 a_15 a_16 a_17 a_18 i_10 i_11 i_12 i_13 i_14 i_15 a_19 i_16 a_20 ry21_0_9_118 (mm_wk q144 (by decide))) (cwV 1 hts (mm_gV mm_w483 mm_w484 mm_w485 mm_w5 mm_w486) rfl rfl rfl hd_X12_fails ⟨by rw [hRf]; exact Nat.le_of_ble_eq_true rfl, by rw [hRl]; exact Nat.le_of_ble_eq_true rfl⟩) (mm_preV hK hZ hS hA hP hD [0] rfl rfl 0 rfl rfl rfl) rfl rfl hl.1 rfl (lv_room (Nat.le_of_ble_eq_true rfl)) dX12_textLine_95 ⟨by rw [hRc]; exact Nat.le_of_ble_eq_true rfl, by rw [hRs]; exact Nat.le_of_ble_eq_true rfl⟩) hP hD hS hA (fun u : Int32 × Int32 => [(a_0, .inr (12, [.int i_0, .ref a_1, .ref a_2, .ref a_3, .ref a_4, .ref a_5, .int i_1, .int y21_0_7_116, .int y21_0_8_117, .int y21_0_9_118, .int y21_0_10_119, .long y21_0_11_120, .int u.1, .int u.2, .int i_8, .int i_9, .ref a_6, .ref a_7, .ref a_8, .ref a_9, .ref a_10, .ref a_11, .ref a_12, .ref a_13, .ref a_14, .ref a_15, .ref a_16, .ref a_17, .ref a_18, .int i_10, .int i_11, .int i_12, .int i_13, .int i_14, .int i_15, .ref a_19, .int i_16, .ref a_20])), (a_5, .inl (cy 0, 600, .inl f_0)), (a_7, .inl (cy 1, 30, .inl (mm_g [i_17, i_18, i_19, i_20, i_21, i_22, i_23, i_24, i_25, i_26, i_27, i_28, i_29, i_30, i_31, i_32, i_33, i_34, i_35, i_36, i_37, i_38, i_39, i_40, i_41, i_42, i_43, i_44, i_45, i_46]))), (a_11, .inl (cy 1, 30, .inl g153)), (a_12, .inl (cy 1, 240, .inl g149))]) [0] [1, 2, 3, 4] (n := 5) (fun _ => rfl) (by decide +kernel) (by decide +kernel) rfl (fun _ => rfl) (wr := [(a_5, .inl (cy 0, 600, .inl f_0)), (a_7, .inl (cy 1, 30, .inl (mm_g [i_17, i_18, i_19, i_20, i_21, i_22, i_23, i_24, i_25, i_26, i_27, i_28, i_29, i_30, i_31, i_32, i_33, i_34, i_35, i_36, i_37, i_38, i_39, i_40, i_41, i_42, i_43, i_44, i_45, i_46]))), (a_11, .inl (cy 1, 30, .inl g153)), (a_12, .inl (cy 1, 240, .inl g149))]) rfl (fun _ => rfl) (fun _ => rfl) ?_
              clear hP hD hS
              clear H locs
              intro u
              obtain ⟨n192, n193⟩ := u
              intro H locs hw (hP : va_P G vwCl [(a_0, .inr (12, [.int i_0, .ref a_1, .ref a_2, .ref a_3, .ref a_4, .ref a_5, .int i_1, .int y21_0_7_116, .int y21_0_8_117, .int y21_0_9_118, .int y21_0_10_119, .long y21_0_11_120, .int n192, .int n193, .int i_8, .int i_9, .ref a_6, .ref a_7, .ref a_8, .ref a_9, .ref a_10, .ref a_11, .ref a_12, .ref a_13, .ref a_14, .ref a_15, .ref a_16, .ref a_17, .ref a_18, .int i_10, .int i_11, .int i_12, .int i_13, .int i_14, .int i_15, .ref a_19, .int i_16, .ref a_20])), (a_5, .inl (cy 0, 600, .inl f_0)), (a_7, .inl (cy 1, 30, .inl (mm_g [i_17, i_18, i_19, i_20, i_21, i_22, i_23, i_24, i_25, i_26, i_27, i_28, i_29, i_30, i_31, i_32, i_33, i_34, i_35, i_36, i_37, i_38, i_39, i_40, i_41, i_42, i_43, i_44, i_45, i_46]))), (a_11, .inl (cy 1, 30, .inl g153)), (a_12, .inl (cy 1, 240, .inl g149))] H) (hD : va_D A [(a_0, .inr (12, [.int i_0, .ref a_1, .ref a_2, .ref a_3, .ref a_4, .ref a_5, .int i_1, .int y21_0_7_116, .int y21_0_8_117, .int y21_0_9_118, .int y21_0_10_119, .long y21_0_11_120, .int n192, .int n193, .int i_8, .int i_9, .ref a_6, .ref a_7, .ref a_8, .ref a_9, .ref a_10, .ref a_11, .ref a_12, .ref a_13, .ref a_14, .ref a_15, .ref a_16, .ref a_17, .ref a_18, .int i_10, .int i_11, .int i_12, .int i_13, .int i_14, .int i_15, .ref a_19, .int i_16, .ref a_20])), (a_5, .inl (cy 0, 600, .inl f_0)), (a_7, .inl (cy 1, 30, .inl (mm_g [i_17, i_18, i_19, i_20, i_21, i_22, i_23, i_24, i_25, i_26, i_27, i_28, i_29, i_30, i_31, i_32, i_33, i_34, i_35, i_36, i_37, i_38, i_39, i_40, i_41, i_42, i_43, i_44, i_45, i_46]))), (a_11, .inl (cy 1, 30, .inl g153)), (a_12, .inl (cy 1, 240, .inl g149))]) hS
              have w194 := hw
              refine lv_aload_n hx hb dX12_textLine_98 rfl (lv_at hl 2 rfl) ?_
              refine mm_finir (va_runV (As := []) (rest := []) ⟨hx, hb, hml, hown, hts⟩ (M52_X12_wordHere l G cy H.size a_0 i_0 a_1 a_2 a_3 a_4 a_5 i_1 y21_0_7_116 y21_0_8_117 y21_0_9_118 y21_0_10_119 y21_0_11_120 n192 n193 i_8 i_9 a_6 a_7 a_8 a_9 a_10 a_11 a_12 a_13 a_14 a_15 a_16 a_17 a_18 i_10 i_11 i_12 i_13 i_14 i_15 a_19 i_16 a_20 i_17 i_18 i_19 i_20 i_21 i_22 i_23 i_24 i_25 i_26 i_27 i_28 i_29 i_30 i_31 i_32 i_33 i_34 i_35 i_36 i_37 i_38 i_39 i_40 i_41 i_42 i_43 i_44 i_45 i_46 ry21_0_7_116 (mm_wk q155 (by decide)) ry21_0_9_118 w194 h6 h7 h8 h9 h10 h11 h12 h13 h14 h15 h16 h17 h18 h19 h20 h21 h22 h23 h24 h25 h26 h27 h28 h29 h30 h31 h32 h33 (mm_wk h34 (by decide)) h35 w125 w126 w127) (cwV 0 hts (mm_gV mm_w532 mm_w533 mm_w534 mm_w5 mm_w535) rfl rfl rfl hd_X12_wordHere ⟨by rw [hRf]; exact Nat.le_of_ble_eq_true rfl, by rw [hRl]; exact Nat.le_of_ble_eq_true rfl⟩) (mm_preV hK hZ hS hA hP hD [0, 2] rfl rfl 0 rfl rfl rfl) rfl rfl hl.1 rfl (lv_room (Nat.le_of_ble_eq_true rfl)) dX12_textLine_99 ⟨by rw [hRc]; exact Nat.le_of_ble_eq_true rfl, by rw [hRs]; exact Nat.le_of_ble_eq_true rfl⟩) hP hD hS hA [0, 2] rfl (fun _ => rfl) ?_
              clear hP hD hS
              clear H locs
              intro v195 _u H locs hw hP hD hS
              obtain ⟨rfl, w196, w197⟩ := hw
              refine lv_istore_n (lv' := [(2, .int 0), (1, .int v2), (0, .ref a_0)]) hx hb dX12_textLine_102 rfl hl (by decide) rfl ?_
              clear hl
              clear ls
              intro ls hl
              refine lv_goto (tgt := 21) hx hb dX12_textLine_103 (by decide) ?_
              exact ih21 0 y21_0_7_116 y21_0_8_117 y21_0_9_118 y21_0_10_119 y21_0_11_120 n192 n193 g153 g149 (mm_wk mm_k0 (by decide)) ry21_0_7_116 (mm_wk q155 (by decide)) ry21_0_9_118 (mm_wk w194 (by decide)) rg153 rg149 w125 w126 w127 w128 (mm_b7_n w194 (by decide)) (mm_fr_u w130 eg153 rv2 (by decide)) (mm_fr_u w131 eg149 rv148 (by decide)) (mm_txl_s w132 eg153 eg149 ev146 tv152 (by have := tv148; have := tv145; omega) w133 rx21_2_115 q181 rv2 (by decide)) w196 (mm_tmM hm21 q144 ev146 eg153 tv152 q181 (by decide)) H locs hP hD hS ls (lv_sub hl [0, 1, 2] rfl)
        · refine lv_goto (tgt := 106) hx hb dX12_textLine_63 (by decide) ?_
          refine lv_aload_n hx hb dX12_textLine_106 rfl (lv_at hl 2 rfl) ?_
          refine lv_iconst (v := 4) hx hb dX12_textLine_107 (by decide) ?_
          refine lv_aload_n hx hb dX12_textLine_108 rfl (lv_at hl 2 rfl) ?_
          refine lv_iconst (v := 4) hx hb dX12_textLine_109 (by decide) ?_
          refine mm_finir (va_runV (As := [.int 4]) (rest := [.int 4, .ref a_0]) ⟨hx, hb, hml, hown, hts⟩ (M43_X12_hasRead l G cy H.size a_0 i_0 a_1 a_2 a_3 a_4 a_5 i_1 y21_0_7_116 y21_0_8_117 y21_0_9_118 y21_0_10_119 y21_0_11_120 y21_0_12_121 y21_0_13_122 i_8 i_9 a_6 a_7 a_8 a_9 a_10 a_11 a_12 a_13 a_14 a_15 a_16 a_17 a_18 i_10 i_11 i_12 i_13 i_14 i_15 a_19 i_16 a_20 i_17 i_18 i_19 i_20 i_21 i_22 i_23 i_24 i_25 i_26 i_27 i_28 i_29 i_30 i_31 i_32 i_33 i_34 i_35 i_36 i_37 i_38 i_39 i_40 i_41 i_42 i_43 i_44 i_45 i_46 h6 h7 h8 h9 h10 h11 h12 h13 h14 h15 h16 h17 h18 h19 h20 h21 h22 h23 h24 h25 h26 h27 h28 h29 h30 h31 h32 h33 (mm_wk h34 (by decide)) h35) (cwV 1 hts (mm_gV mm_w503 mm_w504 mm_w505 mm_w5 mm_w506) rfl rfl rfl hd_X12_hasRead ⟨by rw [hRf]; exact Nat.le_of_ble_eq_true rfl, by rw [hRl]; exact Nat.le_of_ble_eq_true rfl⟩) (mm_preV hK hZ hS hA hP hD [0, 2] rfl rfl 0 rfl rfl rfl) rfl rfl hl.1 rfl (lv_room (Nat.le_of_ble_eq_true rfl)) dX12_textLine_110 ⟨by rw [hRc]; exact Nat.le_of_ble_eq_true rfl, by rw [hRs]; exact Nat.le_of_ble_eq_true rfl⟩) hP hD hS hA [0, 2] rfl (fun _ => rfl) ?_
          clear hP hD hS
          clear H locs
          intro v198 _u H locs hw hP hD hS
          subst hw
          refine lv_iconst (v := 1) hx hb dX12_textLine_113 (by decide) ?_
          refine lv_iadd hx hb dX12_textLine_114 ?_
          refine lv_topi (fun v199 ev199 => ?_)
          have rv199 : mm_rg v199 1 6 := mm_add ev199 h34 mm_k1 (by decide) (by decide)
          have tv199 := mm_addEc ev199 h34 mm_k1 (by decide) (k := 1) (by decide)
          refine mm_finv (va_runV (As := [.int 4, .int v199]) (rest := []) ⟨hx, hb, hml, hown, hts⟩ (M53_X12_tells l G cy H.size a_0 v199 i_0 a_1 a_2 a_3 a_4 a_5 i_1 y21_0_7_116 y21_0_8_117 y21_0_9_118 y21_0_10_119 y21_0_11_120 y21_0_12_121 y21_0_13_122 i_8 i_9 a_6 a_7 a_8 a_9 a_10 a_11 a_12 a_13 a_14 a_15 a_16 a_17 a_18 i_10 i_11 i_12 i_13 i_14 i_15 a_19 i_16 a_20 i_17 i_18 i_19 i_20 i_21 i_22 i_23 i_24 i_25 i_26 i_27 i_28 i_29 i_30 i_31 i_32 i_33 i_34 i_35 i_36 i_37 i_38 i_39 i_40 i_41 i_42 i_43 i_44 i_45 i_46 rv199 h6 h7 h8 h9 h10 h11 h12 h13 h14 h15 h16 h17 h18 h19 h20 h21 h22 h23 h24 h25 h26 h27 h28 h29 h30 h31 h32 h33 (mm_wk h34 (by decide)) h35) (cwV 2 hts (mm_gV mm_w441 mm_w442 mm_w443 mm_w5 mm_w444) rfl rfl rfl hd_X12_tells ⟨by rw [hRf]; exact Nat.le_of_ble_eq_true rfl, by rw [hRl]; exact Nat.le_of_ble_eq_true rfl⟩) (mm_preV hK hZ hS hA hP hD [0, 2] rfl rfl 0 rfl rfl rfl) rfl rfl hl.1 rfl (lv_room (Nat.le_of_ble_eq_true rfl)) dX12_textLine_115 ⟨by rw [hRc]; exact Nat.le_of_ble_eq_true rfl, by rw [hRs]; exact Nat.le_of_ble_eq_true rfl⟩) hP hD hS hA (fun u : Unit => [(a_0, .inr (12, [.int i_0, .ref a_1, .ref a_2, .ref a_3, .ref a_4, .ref a_5, .int i_1, .int y21_0_7_116, .int y21_0_8_117, .int y21_0_9_118, .int y21_0_10_119, .long y21_0_11_120, .int y21_0_12_121, .int y21_0_13_122, .int i_8, .int i_9, .ref a_6, .ref a_7, .ref a_8, .ref a_9, .ref a_10, .ref a_11, .ref a_12, .ref a_13, .ref a_14, .ref a_15, .ref a_16, .ref a_17, .ref a_18, .int i_10, .int i_11, .int i_12, .int i_13, .int i_14, .int i_15, .ref a_19, .int i_16, .ref a_20])), (a_5, .inl (cy 0, 600, .inl f_0)), (a_7, .inl (cy 1, 30, .inl (mm_g [i_17, i_18, i_19, i_20, i_21, i_22, i_23, i_24, i_25, i_26, i_27, i_28, i_29, i_30, i_31, i_32, i_33, i_34, i_35, i_36, i_37, i_38, i_39, i_40, i_41, i_42, i_43, i_44, v199, i_46]))), (a_11, .inl (cy 1, 30, .inl g153)), (a_12, .inl (cy 1, 240, .inl g149))]) [0, 2] [1, 3, 4] (n := 5) (fun _ => rfl) (by decide +kernel) (by decide +kernel) rfl (fun _ => rfl) (wr := [(a_5, .inl (cy 0, 600, .inl f_0)), (a_11, .inl (cy 1, 30, .inl g153)), (a_12, .inl (cy 1, 240, .inl g149))]) rfl (fun _ => rfl) (fun _ => @rfl _ ([a_0, a_7] : List Nat)) ?_
          clear hP hD hS
          clear H locs
          intro _u H locs hw (hP : va_P G vwCl [(a_0, .inr (12, [.int i_0, .ref a_1, .ref a_2, .ref a_3, .ref a_4, .ref a_5, .int i_1, .int y21_0_7_116, .int y21_0_8_117, .int y21_0_9_118, .int y21_0_10_119, .long y21_0_11_120, .int y21_0_12_121, .int y21_0_13_122, .int i_8, .int i_9, .ref a_6, .ref a_7, .ref a_8, .ref a_9, .ref a_10, .ref a_11, .ref a_12, .ref a_13, .ref a_14, .ref a_15, .ref a_16, .ref a_17, .ref a_18, .int i_10, .int i_11, .int i_12, .int i_13, .int i_14, .int i_15, .ref a_19, .int i_16, .ref a_20])), (a_5, .inl (cy 0, 600, .inl f_0)), (a_7, .inl (cy 1, 30, .inl (mm_g [i_17, i_18, i_19, i_20, i_21, i_22, i_23, i_24, i_25, i_26, i_27, i_28, i_29, i_30, i_31, i_32, i_33, i_34, i_35, i_36, i_37, i_38, i_39, i_40, i_41, i_42, i_43, i_44, v199, i_46]))), (a_11, .inl (cy 1, 30, .inl g153)), (a_12, .inl (cy 1, 240, .inl g149))] H) (hD : va_D A [(a_0, .inr (12, [.int i_0, .ref a_1, .ref a_2, .ref a_3, .ref a_4, .ref a_5, .int i_1, .int y21_0_7_116, .int y21_0_8_117, .int y21_0_9_118, .int y21_0_10_119, .long y21_0_11_120, .int y21_0_12_121, .int y21_0_13_122, .int i_8, .int i_9, .ref a_6, .ref a_7, .ref a_8, .ref a_9, .ref a_10, .ref a_11, .ref a_12, .ref a_13, .ref a_14, .ref a_15, .ref a_16, .ref a_17, .ref a_18, .int i_10, .int i_11, .int i_12, .int i_13, .int i_14, .int i_15, .ref a_19, .int i_16, .ref a_20])), (a_5, .inl (cy 0, 600, .inl f_0)), (a_7, .inl (cy 1, 30, .inl (mm_g [i_17, i_18, i_19, i_20, i_21, i_22, i_23, i_24, i_25, i_26, i_27, i_28, i_29, i_30, i_31, i_32, i_33, i_34, i_35, i_36, i_37, i_38, i_39, i_40, i_41, i_42, i_43, i_44, v199, i_46]))), (a_11, .inl (cy 1, 30, .inl g153)), (a_12, .inl (cy 1, 240, .inl g149))]) hS
          have w200 : mm_txs g153 g149 0 i_19 i_21 := (mm_txs_fr h38 (mm_fr_u w130 eg153 rv2 (by decide)) (mm_fr_u w131 eg149 rv148 (by decide)) (by decide))
          have w201 : mm_txs g153 g149 1 i_25 i_27 := (mm_txs_fr h39 (mm_fr_u w130 eg153 rv2 (by decide)) (mm_fr_u w131 eg149 rv148 (by decide)) (by decide))
          have w202 : mm_txs g153 g149 2 i_31 i_33 := (mm_txs_fr h40 (mm_fr_u w130 eg153 rv2 (by decide)) (mm_fr_u w131 eg149 rv148 (by decide)) (by decide))
          have w203 : mm_txs g153 g149 3 i_37 i_39 := (mm_txs_fr h41 (mm_fr_u w130 eg153 rv2 (by decide)) (mm_fr_u w131 eg149 rv148 (by decide)) (by decide))
          have w204 : mm_txs g153 g149 4 i_43 v199 := (mm_txs_t h45 (mm_txl_s w132 eg153 eg149 ev146 tv152 (by have := tv148; have := tv145; omega) w133 rx21_2_115 q147 rv2 (by decide)) (by have := tv2; omega) (by have := tv199; omega) h34 (by decide))
          have w205 : mm_fr f_1 g153 24 := (mm_fr_u w130 eg153 rv2 (by decide))
          have w206 : mm_fr f_2 g149 192 := (mm_fr_u w131 eg149 rv148 (by decide))
          subst hAe
          rw [hQ]
          exact W.vret hx hb hr (fun t ht hW => ⟨⟨(y21_0_7_116, y21_0_8_117, y21_0_9_118, y21_0_10_119, y21_0_11_120, y21_0_12_121, y21_0_13_122, v199, g153, g149), rfl, ⟨ry21_0_7_116, ry21_0_8_117, ry21_0_9_118, (mm_wk q144 (by decide)), rv199, rg153, rg149, w200, w201, w202, w203, w125, w126, w127, w128, w204, w205, w206⟩, by rw [ht]; exact hP, hK.warm hW, hD⟩, hS.F ht⟩) hS.2.2 dX12_textLine_118
  exact L21_133 _ v11 n4 n5 n6 n7 n8 n9 n10 g3 f_2 w21 w12 w13 w14 w15 rg3 h37 w16 w17 w18 w19 (mm_b7_u eg3 mm_k0 (by decide)) (mm_fr_u (mm_fr_r _ _) eg3 rv2 (by decide)) (mm_fr_r _ _) (mm_txl_0 eg3) w22 (Nat.lt_succ_self _) H locs hP hD hS ls (lv_sub hl [0, 1, 2] rfl)

set_option maxHeartbeats 4000000 in
set_option maxRecDepth 100000 in
theorem M55_X12_isRoom (l : Launch) (G : va_G) (cy : Nat → ClassId) (sz : Nat) (a_0 : Nat) (i_0 : Int32) (i_1 : Int32) (a_1 : Nat) (a_2 : Nat) (a_3 : Nat) (a_4 : Nat) (a_5 : Nat) (i_2 : Int32) (i_3 : Int32) (i_4 : Int32) (i_5 : Int32) (i_6 : Int32) (j_0 : Int64) (i_7 : Int32) (i_8 : Int32) (i_9 : Int32) (i_10 : Int32) (a_6 : Nat) (a_7 : Nat) (a_8 : Nat) (a_9 : Nat) (a_10 : Nat) (a_11 : Nat) (a_12 : Nat) (a_13 : Nat) (a_14 : Nat) (a_15 : Nat) (a_16 : Nat) (a_17 : Nat) (a_18 : Nat) (i_11 : Int32) (i_12 : Int32) (i_13 : Int32) (i_14 : Int32) (i_15 : Int32) (i_16 : Int32) (a_19 : Nat) (i_17 : Int32) (a_20 : Nat) (f_0 : Nat → Int32) (h0 : mm_rg i_0 0 3) (h1 : mm_rg i_2 0 600) (h2 : mm_rg i_3 0 600) (h3 : mm_rg i_4 0 4) (h4 : mm_rg i_5 0 600) (h5 : mm_rg i_7 0 3) (h6 : mm_ar f_0 (-128) 127) (h7 : (i_5 : Int32).toInt ≤ (i_3 : Int32).toInt) (h8 : (i_3 : Int32).toInt ≤ (i_2 : Int32).toInt) (h9 : mm_tk i_4 i_5 i_3)  : mm_CI l yX12_isRoom (mm_ws yX12_isRoom cX12_isRoom 4 (some .boolean)) ({ frames := 2, cells := 0, slots := 0, locals := 44 } : Room) G cy sz [(a_0, .inr (12, [.int i_1, .ref a_1, .ref a_2, .ref a_3, .ref a_4, .ref a_5, .int i_2, .int i_3, .int i_4, .int i_5, .int i_6, .long j_0, .int i_7, .int i_8, .int i_9, .int i_10, .ref a_6, .ref a_7, .ref a_8, .ref a_9, .ref a_10, .ref a_11, .ref a_12, .ref a_13, .ref a_14, .ref a_15, .ref a_16, .ref a_17, .ref a_18, .int i_11, .int i_12, .int i_13, .int i_14, .int i_15, .int i_16, .ref a_19, .int i_17, .ref a_20])), (a_5, .inl (cy 0, 600, .inl f_0))] [.ref a_0, .int 1, .int i_0, .int 3] (fun u : Int32 × Int32 × Int32 × Int32 × Int64 × Int32 × Int32 => [(a_0, .inr (12, [.int i_1, .ref a_1, .ref a_2, .ref a_3, .ref a_4, .ref a_5, .int i_2, .int u.1, .int u.2.1, .int u.2.2.1, .int u.2.2.2.1, .long u.2.2.2.2.1, .int u.2.2.2.2.2.1, .int u.2.2.2.2.2.2, .int i_9, .int i_10, .ref a_6, .ref a_7, .ref a_8, .ref a_9, .ref a_10, .ref a_11, .ref a_12, .ref a_13, .ref a_14, .ref a_15, .ref a_16, .ref a_17, .ref a_18, .int i_11, .int i_12, .int i_13, .int i_14, .int i_15, .int i_16, .ref a_19, .int i_17, .ref a_20])), (a_5, .inl (cy 0, 600, .inl f_0))]) (fun (r : Int32) (u : Int32 × Int32 × Int32 × Int32 × Int64 × Int32 × Int32) => mm_rg u.1 0 600 ∧ mm_rg u.2.1 0 4 ∧ mm_rg u.2.2.1 0 600 ∧ mm_rg u.2.2.2.2.2.1 0 3 ∧ (u.2.2.1 : Int32).toInt ≤ (u.1 : Int32).toInt ∧ (u.1 : Int32).toInt ≤ (i_2 : Int32).toInt ∧ mm_tk u.2.1 u.2.2.1 u.1 ∧ (i_5 : Int32).toInt ≤ (u.2.2.1 : Int32).toInt ∧ ((0 = r ∧ mm_rg i_0 0 3) ∨ (1 = r ∧ mm_rg i_0 0 2))) 0 0 := by
  refine mm_begin (lv := [(0, .ref a_0), (1, .int 1), (2, .int i_0), (3, .int 3)]) (by decide) (Nat.le_of_ble_eq_true rfl) rfl ?_
  intro p e s m below meth c A ls R args Q H locs hRe hQ hAe hx hb hr hlocks hml hown hnm hts hsz hA hS hP hK hD hZ hl
  have hRf : R.frames = 2 := by rw [hRe]
  have hRl : R.locals = 44 := by rw [hRe]
  have hRc : R.cells = 0 := by rw [hRe]
  have hRs : R.slots = 0 := by rw [hRe]
  refine lv_iload_n hx hb dX12_isRoom_0 rfl (lv_at hl 1 rfl) ?_
  refine lv_if_eq (tgt := 14) hx hb dX12_isRoom_1 (by decide) (fun c1 => ?_) (fun c1 => ?_)
  · exact mm_eqN c1.symm mm_k0 mm_k1 (by decide)
  · refine lv_iload_n hx hb dX12_isRoom_4 rfl (lv_at hl 2 rfl) ?_
    refine lv_iload_n hx hb dX12_isRoom_5 rfl (lv_at hl 3 rfl) ?_
    refine lv_icmp_ne (tgt := 14) hx hb dX12_isRoom_6 (by decide) (fun c2 => ?_) (fun c2 => ?_)
    · have q3 := mm_neH (hi := 2) (mm_ne c2) h0 mm_k3 (by decide) (by decide)
      refine lv_iload_n hx hb dX12_isRoom_14 rfl (lv_at hl 1 rfl) ?_
      refine lv_if_eq (tgt := 29) hx hb dX12_isRoom_15 (by decide) (fun c4 => ?_) (fun c4 => ?_)
      · exact mm_eqN c4.symm mm_k0 mm_k1 (by decide)
      · refine lv_aload_n hx hb dX12_isRoom_18 rfl (lv_at hl 0 rfl) ?_
        refine va_get (D := G) (ci := 12) (v := .int i_7) (C := RX12) (T := TX12) (N := 38) hx hb hts (mm_i inlX12) hown hK.1 hP 0 rfl rfl 12 (by decide) (mm_h hts mm_w436) (fun _ h9 => h9) rfl dX12_isRoom_19 ?_
        refine lv_if_ne (tgt := 29) hx hb dX12_isRoom_22 (by decide) (fun c5 => ?_) (fun c5 => ?_)
        · have q6 := mm_neL (lo := 1) (mm_ne c5) h5 mm_k0 (by decide) (by decide)
          refine lv_iload_n hx hb dX12_isRoom_29 rfl (lv_at hl 1 rfl) ?_
          refine lv_if_eq (tgt := 44) hx hb dX12_isRoom_30 (by decide) (fun c7 => ?_) (fun c7 => ?_)
          · exact mm_eqN c7.symm mm_k0 mm_k1 (by decide)
          · refine lv_aload_n hx hb dX12_isRoom_33 rfl (lv_at hl 0 rfl) ?_
            refine va_get (D := G) (ci := 12) (v := .int i_7) (C := RX12) (T := TX12) (N := 38) hx hb hts (mm_i inlX12) hown hK.1 hP 0 rfl rfl 12 (by decide) (mm_h hts mm_w436) (fun _ h9 => h9) rfl dX12_isRoom_34 ?_
            refine lv_if_ne (tgt := 44) hx hb dX12_isRoom_37 (by decide) (fun c8 => ?_) (fun c8 => ?_)
            · refine lv_iconst (v := 0) hx hb dX12_isRoom_44 (by decide) ?_
              have w9 : (i_5 : Int32).toInt ≤ (i_5 : Int32).toInt := (Int.le_refl _)
              subst hAe
              rw [hQ]
              exact W.zret (v := 0) hx hb hr rfl (fun t ht hW => ⟨⟨0, (i_3, i_4, i_5, i_6, j_0, i_7, i_8), rfl, ⟨h2, h3, h4, (mm_wk q6 (by decide)), h7, h8, h9, w9, (Or.inl ⟨rfl, (mm_wk q3 (by decide))⟩)⟩, by rw [ht]; exact hP, hK.warm hW, hD⟩, hS.F ht⟩) hS.2.2 dX12_isRoom_45
            · exact mm_eqN c8.symm mm_k0 q6 (by decide)
        · have q10 := mm_eqI (lo := 0) (hi := 0) c5 h5 mm_k0 (by decide)
          refine lv_aload_n hx hb dX12_isRoom_25 rfl (lv_at hl 0 rfl) ?_
          refine mm_finv (va_runV (As := []) (rest := []) ⟨hx, hb, hml, hown, hts⟩ (M22_X12_next l G cy H.size a_0 i_1 a_1 a_2 a_3 a_4 a_5 i_2 i_3 i_4 i_5 i_6 j_0 i_7 i_8 i_9 i_10 a_6 a_7 a_8 a_9 a_10 a_11 a_12 a_13 a_14 a_15 a_16 a_17 a_18 i_11 i_12 i_13 i_14 i_15 i_16 a_19 i_17 a_20 f_0 h1 h2 h3 h4 h6 h8) (cwV 0 hts (mm_gV mm_w451 mm_w452 mm_w453 mm_w5 mm_w454) rfl rfl rfl hd_X12_next ⟨by rw [hRf]; exact Nat.le_of_ble_eq_true rfl, by rw [hRl]; exact Nat.le_of_ble_eq_true rfl⟩) (mm_preV hK hZ hS hA hP hD [0, 1] rfl rfl 0 rfl rfl rfl) rfl rfl hl.1 rfl (lv_room (Nat.le_of_ble_eq_true rfl)) dX12_isRoom_26 ⟨by rw [hRc]; exact Nat.le_of_ble_eq_true rfl, by rw [hRs]; exact Nat.le_of_ble_eq_true rfl⟩) hP hD hS hA (fun u : Int32 × Int32 × Int32 × Int32 × Int64 => [(a_0, .inr (12, [.int i_1, .ref a_1, .ref a_2, .ref a_3, .ref a_4, .ref a_5, .int i_2, .int u.1, .int u.2.1, .int u.2.2.1, .int u.2.2.2.1, .long u.2.2.2.2, .int i_7, .int i_8, .int i_9, .int i_10, .ref a_6, .ref a_7, .ref a_8, .ref a_9, .ref a_10, .ref a_11, .ref a_12, .ref a_13, .ref a_14, .ref a_15, .ref a_16, .ref a_17, .ref a_18, .int i_11, .int i_12, .int i_13, .int i_14, .int i_15, .int i_16, .ref a_19, .int i_17, .ref a_20])), (a_5, .inl (cy 0, 600, .inl f_0))]) [0, 1] [] (n := 2) (fun _ => rfl) (by decide +kernel) (by decide +kernel) rfl (fun _ => rfl) (wr := []) rfl (fun _ => rfl) (fun _ => rfl) ?_
          clear hP hD hS
          clear H locs
          intro u
          obtain ⟨n11, n12, n13, n14, n15⟩ := u
          intro H locs hw (hP : va_P G vwCl [(a_0, .inr (12, [.int i_1, .ref a_1, .ref a_2, .ref a_3, .ref a_4, .ref a_5, .int i_2, .int n11, .int n12, .int n13, .int n14, .long n15, .int i_7, .int i_8, .int i_9, .int i_10, .ref a_6, .ref a_7, .ref a_8, .ref a_9, .ref a_10, .ref a_11, .ref a_12, .ref a_13, .ref a_14, .ref a_15, .ref a_16, .ref a_17, .ref a_18, .int i_11, .int i_12, .int i_13, .int i_14, .int i_15, .int i_16, .ref a_19, .int i_17, .ref a_20])), (a_5, .inl (cy 0, 600, .inl f_0))] H) (hD : va_D A [(a_0, .inr (12, [.int i_1, .ref a_1, .ref a_2, .ref a_3, .ref a_4, .ref a_5, .int i_2, .int n11, .int n12, .int n13, .int n14, .long n15, .int i_7, .int i_8, .int i_9, .int i_10, .ref a_6, .ref a_7, .ref a_8, .ref a_9, .ref a_10, .ref a_11, .ref a_12, .ref a_13, .ref a_14, .ref a_15, .ref a_16, .ref a_17, .ref a_18, .int i_11, .int i_12, .int i_13, .int i_14, .int i_15, .int i_16, .ref a_19, .int i_17, .ref a_20])), (a_5, .inl (cy 0, 600, .inl f_0))]) hS
          obtain ⟨w16, w17, w18, w19, w20, w21, w22⟩ := hw
          replace w19 : (n13 : Int32).toInt ≤ (n11 : Int32).toInt := w19
          replace w20 : (n11 : Int32).toInt ≤ (i_2 : Int32).toInt := w20
          replace w21 : mm_tk n12 n13 n11 := w21
          replace w22 : (i_3 : Int32).toInt ≤ (n13 : Int32).toInt := w22
          refine lv_iload_n hx hb dX12_isRoom_29 rfl (lv_at hl 1 rfl) ?_
          refine lv_if_eq (tgt := 44) hx hb dX12_isRoom_30 (by decide) (fun c23 => ?_) (fun c23 => ?_)
          · exact mm_eqN c23.symm mm_k0 mm_k1 (by decide)
          · refine lv_aload_n hx hb dX12_isRoom_33 rfl (lv_at hl 0 rfl) ?_
            refine va_get (D := G) (ci := 12) (v := .int i_7) (C := RX12) (T := TX12) (N := 38) hx hb hts (mm_i inlX12) hown hK.1 hP 0 rfl rfl 12 (by decide) (mm_h hts mm_w436) (fun _ h9 => h9) rfl dX12_isRoom_34 ?_
            refine lv_if_ne (tgt := 44) hx hb dX12_isRoom_37 (by decide) (fun c24 => ?_) (fun c24 => ?_)
            · have q25 := mm_neL (lo := 1) (mm_ne c24) q10 mm_k0 (by decide) (by decide)
              exact mm_no q25 (by decide)
            · refine lv_iconst (v := 1) hx hb dX12_isRoom_40 (by decide) ?_
              refine lv_goto (tgt := 45) hx hb dX12_isRoom_41 (by decide) ?_
              have w26 : (i_5 : Int32).toInt ≤ (n13 : Int32).toInt := (by have := h7; have := w22; omega)
              subst hAe
              rw [hQ]
              exact W.zret (v := 1) hx hb hr rfl (fun t ht hW => ⟨⟨1, (n11, n12, n13, n14, n15, i_7, i_8), rfl, ⟨w16, w17, w18, (mm_wk q10 (by decide)), w19, w20, w21, w26, (Or.inr ⟨rfl, q3⟩)⟩, by rw [ht]; exact hP, hK.warm hW, hD⟩, hS.F ht⟩) hS.2.2 dX12_isRoom_45
    · have q27 := mm_eqI (lo := 3) (hi := 3) c2 h0 mm_k3 (by decide)
      refine lv_aload_n hx hb dX12_isRoom_9 rfl (lv_at hl 0 rfl) ?_
      refine lv_iconst (v := 3) hx hb dX12_isRoom_10 (by decide) ?_
      refine mm_finv (va_runV (As := [.int 3]) (rest := []) ⟨hx, hb, hml, hown, hts⟩ (M45_X12_fails l G cy H.size a_0 i_1 a_1 a_2 a_3 a_4 a_5 i_2 i_3 i_4 i_5 i_6 j_0 i_7 i_8 i_9 i_10 a_6 a_7 a_8 a_9 a_10 a_11 a_12 a_13 a_14 a_15 a_16 a_17 a_18 i_11 i_12 i_13 i_14 i_15 i_16 a_19 i_17 a_20 h4 h5) (cwV 1 hts (mm_gV mm_w483 mm_w484 mm_w485 mm_w5 mm_w486) rfl rfl rfl hd_X12_fails ⟨by rw [hRf]; exact Nat.le_of_ble_eq_true rfl, by rw [hRl]; exact Nat.le_of_ble_eq_true rfl⟩) (mm_preV hK hZ hS hA hP hD [0] rfl rfl 0 rfl rfl rfl) rfl rfl hl.1 rfl (lv_room (Nat.le_of_ble_eq_true rfl)) dX12_isRoom_11 ⟨by rw [hRc]; exact Nat.le_of_ble_eq_true rfl, by rw [hRs]; exact Nat.le_of_ble_eq_true rfl⟩) hP hD hS hA (fun u : Int32 × Int32 => [(a_0, .inr (12, [.int i_1, .ref a_1, .ref a_2, .ref a_3, .ref a_4, .ref a_5, .int i_2, .int i_3, .int i_4, .int i_5, .int i_6, .long j_0, .int u.1, .int u.2, .int i_9, .int i_10, .ref a_6, .ref a_7, .ref a_8, .ref a_9, .ref a_10, .ref a_11, .ref a_12, .ref a_13, .ref a_14, .ref a_15, .ref a_16, .ref a_17, .ref a_18, .int i_11, .int i_12, .int i_13, .int i_14, .int i_15, .int i_16, .ref a_19, .int i_17, .ref a_20])), (a_5, .inl (cy 0, 600, .inl f_0))]) [0] [1] (n := 2) (fun _ => rfl) (by decide +kernel) (by decide +kernel) rfl (fun _ => rfl) (wr := [(a_5, .inl (cy 0, 600, .inl f_0))]) rfl (fun _ => rfl) (fun _ => rfl) ?_
      clear hP hD hS
      clear H locs
      intro u
      obtain ⟨n28, n29⟩ := u
      intro H locs hw (hP : va_P G vwCl [(a_0, .inr (12, [.int i_1, .ref a_1, .ref a_2, .ref a_3, .ref a_4, .ref a_5, .int i_2, .int i_3, .int i_4, .int i_5, .int i_6, .long j_0, .int n28, .int n29, .int i_9, .int i_10, .ref a_6, .ref a_7, .ref a_8, .ref a_9, .ref a_10, .ref a_11, .ref a_12, .ref a_13, .ref a_14, .ref a_15, .ref a_16, .ref a_17, .ref a_18, .int i_11, .int i_12, .int i_13, .int i_14, .int i_15, .int i_16, .ref a_19, .int i_17, .ref a_20])), (a_5, .inl (cy 0, 600, .inl f_0))] H) (hD : va_D A [(a_0, .inr (12, [.int i_1, .ref a_1, .ref a_2, .ref a_3, .ref a_4, .ref a_5, .int i_2, .int i_3, .int i_4, .int i_5, .int i_6, .long j_0, .int n28, .int n29, .int i_9, .int i_10, .ref a_6, .ref a_7, .ref a_8, .ref a_9, .ref a_10, .ref a_11, .ref a_12, .ref a_13, .ref a_14, .ref a_15, .ref a_16, .ref a_17, .ref a_18, .int i_11, .int i_12, .int i_13, .int i_14, .int i_15, .int i_16, .ref a_19, .int i_17, .ref a_20])), (a_5, .inl (cy 0, 600, .inl f_0))]) hS
      have w30 := hw
      refine lv_iload_n hx hb dX12_isRoom_14 rfl (lv_at hl 1 rfl) ?_
      refine lv_if_eq (tgt := 29) hx hb dX12_isRoom_15 (by decide) (fun c31 => ?_) (fun c31 => ?_)
      · exact mm_eqN c31.symm mm_k0 mm_k1 (by decide)
      · refine lv_aload_n hx hb dX12_isRoom_18 rfl (lv_at hl 0 rfl) ?_
        refine va_get (D := G) (ci := 12) (v := .int n28) (C := RX12) (T := TX12) (N := 38) hx hb hts (mm_i inlX12) hown hK.1 hP 0 rfl rfl 12 (by decide) (mm_h hts mm_w436) (fun _ h9 => h9) rfl dX12_isRoom_19 ?_
        refine lv_if_ne (tgt := 29) hx hb dX12_isRoom_22 (by decide) (fun c32 => ?_) (fun c32 => ?_)
        · refine lv_iload_n hx hb dX12_isRoom_29 rfl (lv_at hl 1 rfl) ?_
          refine lv_if_eq (tgt := 44) hx hb dX12_isRoom_30 (by decide) (fun c33 => ?_) (fun c33 => ?_)
          · exact mm_eqN c33.symm mm_k0 mm_k1 (by decide)
          · refine lv_aload_n hx hb dX12_isRoom_33 rfl (lv_at hl 0 rfl) ?_
            refine va_get (D := G) (ci := 12) (v := .int n28) (C := RX12) (T := TX12) (N := 38) hx hb hts (mm_i inlX12) hown hK.1 hP 0 rfl rfl 12 (by decide) (mm_h hts mm_w436) (fun _ h9 => h9) rfl dX12_isRoom_34 ?_
            refine lv_if_ne (tgt := 44) hx hb dX12_isRoom_37 (by decide) (fun c34 => ?_) (fun c34 => ?_)
            · refine lv_iconst (v := 0) hx hb dX12_isRoom_44 (by decide) ?_
              have w35 : (i_5 : Int32).toInt ≤ (i_5 : Int32).toInt := (Int.le_refl _)
              subst hAe
              rw [hQ]
              exact W.zret (v := 0) hx hb hr rfl (fun t ht hW => ⟨⟨0, (i_3, i_4, i_5, i_6, j_0, n28, n29), rfl, ⟨h2, h3, h4, (mm_wk w30 (by decide)), h7, h8, h9, w35, (Or.inl ⟨rfl, (mm_wk q27 (by decide))⟩)⟩, by rw [ht]; exact hP, hK.warm hW, hD⟩, hS.F ht⟩) hS.2.2 dX12_isRoom_45
            · exact mm_eqN c34.symm mm_k0 w30 (by decide)
        · exact mm_eqN c32.symm mm_k0 w30 (by decide)

set_option maxHeartbeats 4000000 in
set_option maxRecDepth 100000 in
theorem M56_X12_tells (l : Launch) (G : va_G) (cy : Nat → ClassId) (sz : Nat) (a_0 : Nat) (i_0 : Int32) (i_1 : Int32) (a_1 : Nat) (a_2 : Nat) (a_3 : Nat) (a_4 : Nat) (a_5 : Nat) (i_2 : Int32) (i_3 : Int32) (i_4 : Int32) (i_5 : Int32) (i_6 : Int32) (j_0 : Int64) (i_7 : Int32) (i_8 : Int32) (i_9 : Int32) (i_10 : Int32) (a_6 : Nat) (a_7 : Nat) (a_8 : Nat) (a_9 : Nat) (a_10 : Nat) (a_11 : Nat) (a_12 : Nat) (a_13 : Nat) (a_14 : Nat) (a_15 : Nat) (a_16 : Nat) (a_17 : Nat) (a_18 : Nat) (i_11 : Int32) (i_12 : Int32) (i_13 : Int32) (i_14 : Int32) (i_15 : Int32) (i_16 : Int32) (a_19 : Nat) (i_17 : Int32) (a_20 : Nat) (i_18 : Int32) (i_19 : Int32) (i_20 : Int32) (i_21 : Int32) (i_22 : Int32) (i_23 : Int32) (i_24 : Int32) (i_25 : Int32) (i_26 : Int32) (i_27 : Int32) (i_28 : Int32) (i_29 : Int32) (i_30 : Int32) (i_31 : Int32) (i_32 : Int32) (i_33 : Int32) (i_34 : Int32) (i_35 : Int32) (i_36 : Int32) (i_37 : Int32) (i_38 : Int32) (i_39 : Int32) (i_40 : Int32) (i_41 : Int32) (i_42 : Int32) (i_43 : Int32) (i_44 : Int32) (i_45 : Int32) (i_46 : Int32) (i_47 : Int32) (h0 : mm_rg i_0 1 3) (h1 : mm_rg i_18 0 10) (h2 : mm_rg i_19 0 99) (h3 : mm_rg i_20 0 9) (h4 : mm_rg i_21 0 3) (h5 : mm_rg i_22 0 6) (h6 : mm_rg i_23 0 30) (h7 : mm_rg i_24 0 10) (h8 : mm_rg i_25 0 99) (h9 : mm_rg i_26 0 9) (h10 : mm_rg i_27 0 3) (h11 : mm_rg i_28 0 6) (h12 : mm_rg i_29 0 30) (h13 : mm_rg i_30 0 10) (h14 : mm_rg i_31 0 99) (h15 : mm_rg i_32 0 9) (h16 : mm_rg i_33 0 3) (h17 : mm_rg i_34 0 6) (h18 : mm_rg i_35 0 30) (h19 : mm_rg i_36 0 10) (h20 : mm_rg i_37 0 99) (h21 : mm_rg i_38 0 9) (h22 : mm_rg i_39 0 3) (h23 : mm_rg i_40 0 6) (h24 : mm_rg i_41 0 30) (h25 : mm_rg i_42 0 10) (h26 : mm_rg i_43 0 99) (h27 : mm_rg i_44 0 9) (h28 : mm_rg i_45 0 3) (h29 : mm_rg i_46 0 6) (h30 : mm_rg i_47 0 30)  : mm_CV l yX12_tells (mm_ws yX12_tells cX12_tells 3 (none)) ({ frames := 0, cells := 0, slots := 0, locals := 0 } : Room) G cy sz [(a_0, .inr (12, [.int i_1, .ref a_1, .ref a_2, .ref a_3, .ref a_4, .ref a_5, .int i_2, .int i_3, .int i_4, .int i_5, .int i_6, .long j_0, .int i_7, .int i_8, .int i_9, .int i_10, .ref a_6, .ref a_7, .ref a_8, .ref a_9, .ref a_10, .ref a_11, .ref a_12, .ref a_13, .ref a_14, .ref a_15, .ref a_16, .ref a_17, .ref a_18, .int i_11, .int i_12, .int i_13, .int i_14, .int i_15, .int i_16, .ref a_19, .int i_17, .ref a_20])), (a_7, .inl (cy 1, 30, .inl (mm_g [i_18, i_19, i_20, i_21, i_22, i_23, i_24, i_25, i_26, i_27, i_28, i_29, i_30, i_31, i_32, i_33, i_34, i_35, i_36, i_37, i_38, i_39, i_40, i_41, i_42, i_43, i_44, i_45, i_46, i_47])))] [.ref a_0, .int 3, .int i_0] (fun u : Unit => [(a_0, .inr (12, [.int i_1, .ref a_1, .ref a_2, .ref a_3, .ref a_4, .ref a_5, .int i_2, .int i_3, .int i_4, .int i_5, .int i_6, .long j_0, .int i_7, .int i_8, .int i_9, .int i_10, .ref a_6, .ref a_7, .ref a_8, .ref a_9, .ref a_10, .ref a_11, .ref a_12, .ref a_13, .ref a_14, .ref a_15, .ref a_16, .ref a_17, .ref a_18, .int i_11, .int i_12, .int i_13, .int i_14, .int i_15, .int i_16, .ref a_19, .int i_17, .ref a_20])), (a_7, .inl (cy 1, 30, .inl (mm_g [i_18, i_19, i_20, i_21, i_22, i_23, i_24, i_25, i_26, i_27, i_28, i_29, i_30, i_31, i_32, i_33, i_34, i_35, i_36, i_37, i_38, i_39, i_40, i_41, i_42, i_43, i_44, i_0, i_46, i_47])))]) (fun u : Unit => True) 0 0 := by
  refine mm_begin (lv := [(0, .ref a_0), (1, .int 3), (2, .int i_0)]) (by decide) (Nat.le_of_ble_eq_true rfl) rfl ?_
  intro p e s m below meth c A ls R args Q H locs hRe hQ hAe hx hb hr hlocks hml hown hnm hts hsz hA hS hP hK hD hZ hl
  have hRf : R.frames = 0 := by rw [hRe]
  have hRl : R.locals = 0 := by rw [hRe]
  have hRc : R.cells = 0 := by rw [hRe]
  have hRs : R.slots = 0 := by rw [hRe]
  refine lv_aload_n hx hb dX12_tells_0 rfl (lv_at hl 0 rfl) ?_
  refine va_get (D := G) (ci := 12) (v := .ref a_7) (C := RX12) (T := TX12) (N := 38) hx hb hts (mm_i inlX12) hown hK.1 hP 0 rfl rfl 17 (by decide) (mm_h hts mm_w149) (fun _ h9 => h9) rfl dX12_tells_1 ?_
  refine lv_bipush (v := 24) hx hb dX12_tells_4 (by decide) ?_
  refine lv_iload_n hx hb dX12_tells_6 rfl (lv_at hl 1 rfl) ?_
  refine lv_iadd hx hb dX12_tells_7 ?_
  refine lv_topi (fun v1 ev1 => ?_)
  obtain rfl : v1 = 27 := ev1.trans (by decide)
  refine lv_iload_n hx hb dX12_tells_8 rfl (lv_at hl 2 rfl) ?_
  refine va_iast hx hb hK.1 hP hD hS 1 1 rfl rfl (mm_in mm_k27 (by decide)) dX12_tells_9 ?_
  clear hP hD hS
  clear H locs
  rw [show upd (mm_g [i_18, i_19, i_20, i_21, i_22, i_23, i_24, i_25, i_26, i_27, i_28, i_29, i_30, i_31, i_32, i_33, i_34, i_35, i_36, i_37, i_38, i_39, i_40, i_41, i_42, i_43, i_44, i_45, i_46, i_47]) (27 : Int32).toNatClampNeg i_0 = (mm_g [i_18, i_19, i_20, i_21, i_22, i_23, i_24, i_25, i_26, i_27, i_28, i_29, i_30, i_31, i_32, i_33, i_34, i_35, i_36, i_37, i_38, i_39, i_40, i_41, i_42, i_43, i_44, i_0, i_46, i_47]) from mm_gs2 27 30 (by decide) rfl rfl rfl]
  intro H locs (hP : va_P G vwCl [(a_0, .inr (12, [.int i_1, .ref a_1, .ref a_2, .ref a_3, .ref a_4, .ref a_5, .int i_2, .int i_3, .int i_4, .int i_5, .int i_6, .long j_0, .int i_7, .int i_8, .int i_9, .int i_10, .ref a_6, .ref a_7, .ref a_8, .ref a_9, .ref a_10, .ref a_11, .ref a_12, .ref a_13, .ref a_14, .ref a_15, .ref a_16, .ref a_17, .ref a_18, .int i_11, .int i_12, .int i_13, .int i_14, .int i_15, .int i_16, .ref a_19, .int i_17, .ref a_20])), (a_7, .inl (cy 1, 30, .inl (mm_g [i_18, i_19, i_20, i_21, i_22, i_23, i_24, i_25, i_26, i_27, i_28, i_29, i_30, i_31, i_32, i_33, i_34, i_35, i_36, i_37, i_38, i_39, i_40, i_41, i_42, i_43, i_44, i_0, i_46, i_47])))] H) (hD : va_D A [(a_0, .inr (12, [.int i_1, .ref a_1, .ref a_2, .ref a_3, .ref a_4, .ref a_5, .int i_2, .int i_3, .int i_4, .int i_5, .int i_6, .long j_0, .int i_7, .int i_8, .int i_9, .int i_10, .ref a_6, .ref a_7, .ref a_8, .ref a_9, .ref a_10, .ref a_11, .ref a_12, .ref a_13, .ref a_14, .ref a_15, .ref a_16, .ref a_17, .ref a_18, .int i_11, .int i_12, .int i_13, .int i_14, .int i_15, .int i_16, .ref a_19, .int i_17, .ref a_20])), (a_7, .inl (cy 1, 30, .inl (mm_g [i_18, i_19, i_20, i_21, i_22, i_23, i_24, i_25, i_26, i_27, i_28, i_29, i_30, i_31, i_32, i_33, i_34, i_35, i_36, i_37, i_38, i_39, i_40, i_41, i_42, i_43, i_44, i_0, i_46, i_47])))]) hS
  subst hAe
  rw [hQ]
  exact W.vret hx hb hr (fun t ht hW => ⟨⟨(), rfl, trivial, by rw [ht]; exact hP, hK.warm hW, hD⟩, hS.F ht⟩) hS.2.2 dX12_tells_10

set_option maxHeartbeats 4000000 in
set_option maxRecDepth 100000 in
theorem M57_X12_isRoom (l : Launch) (G : va_G) (cy : Nat → ClassId) (sz : Nat) (a_0 : Nat) (i_0 : Int32) (h0 : mm_rg i_0 0 0)  : mm_CI l yX12_isRoom (mm_ws yX12_isRoom cX12_isRoom 4 (some .boolean)) ({ frames := 0, cells := 0, slots := 0, locals := 0 } : Room) G cy sz [] [.ref a_0, .int 0, .int i_0, .int 3] (fun u : Unit => []) (fun (r : Int32) (u : Unit) => 0 = r) 0 0 := by
  refine mm_begin (lv := [(0, .ref a_0), (1, .int 0), (2, .int i_0), (3, .int 3)]) (by decide) (Nat.le_of_ble_eq_true rfl) rfl ?_
  intro p e s m below meth c A ls R args Q H locs hRe hQ hAe hx hb hr hlocks hml hown hnm hts hsz hA hS hP hK hD hZ hl
  have hRf : R.frames = 0 := by rw [hRe]
  have hRl : R.locals = 0 := by rw [hRe]
  have hRc : R.cells = 0 := by rw [hRe]
  have hRs : R.slots = 0 := by rw [hRe]
  refine lv_iload_n hx hb dX12_isRoom_0 rfl (lv_at hl 1 rfl) ?_
  refine lv_if_eq (tgt := 14) hx hb dX12_isRoom_1 (by decide) (fun c1 => ?_) (fun c1 => ?_)
  · refine lv_iload_n hx hb dX12_isRoom_14 rfl (lv_at hl 1 rfl) ?_
    refine lv_if_eq (tgt := 29) hx hb dX12_isRoom_15 (by decide) (fun c2 => ?_) (fun c2 => ?_)
    · refine lv_iload_n hx hb dX12_isRoom_29 rfl (lv_at hl 1 rfl) ?_
      refine lv_if_eq (tgt := 44) hx hb dX12_isRoom_30 (by decide) (fun c3 => ?_) (fun c3 => ?_)
      · refine lv_iconst (v := 0) hx hb dX12_isRoom_44 (by decide) ?_
        subst hAe
        rw [hQ]
        exact W.zret (v := 0) hx hb hr rfl (fun t ht hW => ⟨⟨0, (), rfl, rfl, by rw [ht]; exact hP, hK.warm hW, hD⟩, hS.F ht⟩) hS.2.2 dX12_isRoom_45
      · exact absurd rfl (mm_ne c3)
    · exact absurd rfl (mm_ne c2)
  · exact absurd rfl (mm_ne c1)

set_option maxHeartbeats 4000000 in
set_option maxRecDepth 100000 in
theorem M58_X12_isRoom (l : Launch) (G : va_G) (cy : Nat → ClassId) (sz : Nat) (a_0 : Nat) (i_0 : Int32) (i_1 : Int32) (a_1 : Nat) (a_2 : Nat) (a_3 : Nat) (a_4 : Nat) (a_5 : Nat) (i_2 : Int32) (i_3 : Int32) (i_4 : Int32) (i_5 : Int32) (i_6 : Int32) (j_0 : Int64) (i_7 : Int32) (i_8 : Int32) (i_9 : Int32) (i_10 : Int32) (a_6 : Nat) (a_7 : Nat) (a_8 : Nat) (a_9 : Nat) (a_10 : Nat) (a_11 : Nat) (a_12 : Nat) (a_13 : Nat) (a_14 : Nat) (a_15 : Nat) (a_16 : Nat) (a_17 : Nat) (a_18 : Nat) (i_11 : Int32) (i_12 : Int32) (i_13 : Int32) (i_14 : Int32) (i_15 : Int32) (i_16 : Int32) (a_19 : Nat) (i_17 : Int32) (a_20 : Nat) (f_0 : Nat → Int32) (h0 : mm_rg i_0 0 0) (h1 : mm_rg i_2 0 600) (h2 : mm_rg i_3 0 600) (h3 : mm_rg i_4 0 4) (h4 : mm_rg i_5 0 600) (h5 : mm_rg i_7 0 3) (h6 : mm_ar f_0 (-128) 127) (h7 : (i_5 : Int32).toInt ≤ (i_3 : Int32).toInt) (h8 : (i_3 : Int32).toInt ≤ (i_2 : Int32).toInt) (h9 : mm_tk i_4 i_5 i_3)  : mm_CI l yX12_isRoom (mm_ws yX12_isRoom cX12_isRoom 4 (some .boolean)) ({ frames := 2, cells := 0, slots := 0, locals := 44 } : Room) G cy sz [(a_0, .inr (12, [.int i_1, .ref a_1, .ref a_2, .ref a_3, .ref a_4, .ref a_5, .int i_2, .int i_3, .int i_4, .int i_5, .int i_6, .long j_0, .int i_7, .int i_8, .int i_9, .int i_10, .ref a_6, .ref a_7, .ref a_8, .ref a_9, .ref a_10, .ref a_11, .ref a_12, .ref a_13, .ref a_14, .ref a_15, .ref a_16, .ref a_17, .ref a_18, .int i_11, .int i_12, .int i_13, .int i_14, .int i_15, .int i_16, .ref a_19, .int i_17, .ref a_20])), (a_5, .inl (cy 0, 600, .inl f_0))] [.ref a_0, .int 1, .int i_0, .int 3] (fun u : Int32 × Int32 × Int32 × Int32 × Int64 => [(a_0, .inr (12, [.int i_1, .ref a_1, .ref a_2, .ref a_3, .ref a_4, .ref a_5, .int i_2, .int u.1, .int u.2.1, .int u.2.2.1, .int u.2.2.2.1, .long u.2.2.2.2, .int i_7, .int i_8, .int i_9, .int i_10, .ref a_6, .ref a_7, .ref a_8, .ref a_9, .ref a_10, .ref a_11, .ref a_12, .ref a_13, .ref a_14, .ref a_15, .ref a_16, .ref a_17, .ref a_18, .int i_11, .int i_12, .int i_13, .int i_14, .int i_15, .int i_16, .ref a_19, .int i_17, .ref a_20])), (a_5, .inl (cy 0, 600, .inl f_0))]) (fun (r : Int32) (u : Int32 × Int32 × Int32 × Int32 × Int64) => mm_rg u.1 0 600 ∧ mm_rg u.2.1 0 4 ∧ mm_rg u.2.2.1 0 600 ∧ (u.2.2.1 : Int32).toInt ≤ (u.1 : Int32).toInt ∧ (u.1 : Int32).toInt ≤ (i_2 : Int32).toInt ∧ mm_tk u.2.1 u.2.2.1 u.1 ∧ (i_5 : Int32).toInt ≤ (u.2.2.1 : Int32).toInt ∧ ((0 = r) ∨ (1 = r))) 0 0 := by
  refine mm_begin (lv := [(0, .ref a_0), (1, .int 1), (2, .int i_0), (3, .int 3)]) (by decide) (Nat.le_of_ble_eq_true rfl) rfl ?_
  intro p e s m below meth c A ls R args Q H locs hRe hQ hAe hx hb hr hlocks hml hown hnm hts hsz hA hS hP hK hD hZ hl
  have hRf : R.frames = 2 := by rw [hRe]
  have hRl : R.locals = 44 := by rw [hRe]
  have hRc : R.cells = 0 := by rw [hRe]
  have hRs : R.slots = 0 := by rw [hRe]
  refine lv_iload_n hx hb dX12_isRoom_0 rfl (lv_at hl 1 rfl) ?_
  refine lv_if_eq (tgt := 14) hx hb dX12_isRoom_1 (by decide) (fun c1 => ?_) (fun c1 => ?_)
  · exact mm_eqN c1.symm mm_k0 mm_k1 (by decide)
  · refine lv_iload_n hx hb dX12_isRoom_4 rfl (lv_at hl 2 rfl) ?_
    refine lv_iload_n hx hb dX12_isRoom_5 rfl (lv_at hl 3 rfl) ?_
    refine lv_icmp_ne (tgt := 14) hx hb dX12_isRoom_6 (by decide) (fun c2 => ?_) (fun c2 => ?_)
    · refine lv_iload_n hx hb dX12_isRoom_14 rfl (lv_at hl 1 rfl) ?_
      refine lv_if_eq (tgt := 29) hx hb dX12_isRoom_15 (by decide) (fun c3 => ?_) (fun c3 => ?_)
      · exact mm_eqN c3.symm mm_k0 mm_k1 (by decide)
      · refine lv_aload_n hx hb dX12_isRoom_18 rfl (lv_at hl 0 rfl) ?_
        refine va_get (D := G) (ci := 12) (v := .int i_7) (C := RX12) (T := TX12) (N := 38) hx hb hts (mm_i inlX12) hown hK.1 hP 0 rfl rfl 12 (by decide) (mm_h hts mm_w436) (fun _ h9 => h9) rfl dX12_isRoom_19 ?_
        refine lv_if_ne (tgt := 29) hx hb dX12_isRoom_22 (by decide) (fun c4 => ?_) (fun c4 => ?_)
        · have q5 := mm_neL (lo := 1) (mm_ne c4) h5 mm_k0 (by decide) (by decide)
          refine lv_iload_n hx hb dX12_isRoom_29 rfl (lv_at hl 1 rfl) ?_
          refine lv_if_eq (tgt := 44) hx hb dX12_isRoom_30 (by decide) (fun c6 => ?_) (fun c6 => ?_)
          · exact mm_eqN c6.symm mm_k0 mm_k1 (by decide)
          · refine lv_aload_n hx hb dX12_isRoom_33 rfl (lv_at hl 0 rfl) ?_
            refine va_get (D := G) (ci := 12) (v := .int i_7) (C := RX12) (T := TX12) (N := 38) hx hb hts (mm_i inlX12) hown hK.1 hP 0 rfl rfl 12 (by decide) (mm_h hts mm_w436) (fun _ h9 => h9) rfl dX12_isRoom_34 ?_
            refine lv_if_ne (tgt := 44) hx hb dX12_isRoom_37 (by decide) (fun c7 => ?_) (fun c7 => ?_)
            · refine lv_iconst (v := 0) hx hb dX12_isRoom_44 (by decide) ?_
              have w8 : (i_5 : Int32).toInt ≤ (i_5 : Int32).toInt := (Int.le_refl _)
              subst hAe
              rw [hQ]
              exact W.zret (v := 0) hx hb hr rfl (fun t ht hW => ⟨⟨0, (i_3, i_4, i_5, i_6, j_0), rfl, ⟨h2, h3, h4, h7, h8, h9, w8, (Or.inl rfl)⟩, by rw [ht]; exact hP, hK.warm hW, hD⟩, hS.F ht⟩) hS.2.2 dX12_isRoom_45
            · exact mm_eqN c7.symm mm_k0 q5 (by decide)
        · have q9 := mm_eqI (lo := 0) (hi := 0) c4 h5 mm_k0 (by decide)
          refine lv_aload_n hx hb dX12_isRoom_25 rfl (lv_at hl 0 rfl) ?_
          refine mm_finv (va_runV (As := []) (rest := []) ⟨hx, hb, hml, hown, hts⟩ (M22_X12_next l G cy H.size a_0 i_1 a_1 a_2 a_3 a_4 a_5 i_2 i_3 i_4 i_5 i_6 j_0 i_7 i_8 i_9 i_10 a_6 a_7 a_8 a_9 a_10 a_11 a_12 a_13 a_14 a_15 a_16 a_17 a_18 i_11 i_12 i_13 i_14 i_15 i_16 a_19 i_17 a_20 f_0 h1 h2 h3 h4 h6 h8) (cwV 0 hts (mm_gV mm_w451 mm_w452 mm_w453 mm_w5 mm_w454) rfl rfl rfl hd_X12_next ⟨by rw [hRf]; exact Nat.le_of_ble_eq_true rfl, by rw [hRl]; exact Nat.le_of_ble_eq_true rfl⟩) (mm_preV hK hZ hS hA hP hD [0, 1] rfl rfl 0 rfl rfl rfl) rfl rfl hl.1 rfl (lv_room (Nat.le_of_ble_eq_true rfl)) dX12_isRoom_26 ⟨by rw [hRc]; exact Nat.le_of_ble_eq_true rfl, by rw [hRs]; exact Nat.le_of_ble_eq_true rfl⟩) hP hD hS hA (fun u : Int32 × Int32 × Int32 × Int32 × Int64 => [(a_0, .inr (12, [.int i_1, .ref a_1, .ref a_2, .ref a_3, .ref a_4, .ref a_5, .int i_2, .int u.1, .int u.2.1, .int u.2.2.1, .int u.2.2.2.1, .long u.2.2.2.2, .int i_7, .int i_8, .int i_9, .int i_10, .ref a_6, .ref a_7, .ref a_8, .ref a_9, .ref a_10, .ref a_11, .ref a_12, .ref a_13, .ref a_14, .ref a_15, .ref a_16, .ref a_17, .ref a_18, .int i_11, .int i_12, .int i_13, .int i_14, .int i_15, .int i_16, .ref a_19, .int i_17, .ref a_20])), (a_5, .inl (cy 0, 600, .inl f_0))]) [0, 1] [] (n := 2) (fun _ => rfl) (by decide +kernel) (by decide +kernel) rfl (fun _ => rfl) (wr := []) rfl (fun _ => rfl) (fun _ => rfl) ?_
          clear hP hD hS
          clear H locs
          intro u
          obtain ⟨n10, n11, n12, n13, n14⟩ := u
          intro H locs hw (hP : va_P G vwCl [(a_0, .inr (12, [.int i_1, .ref a_1, .ref a_2, .ref a_3, .ref a_4, .ref a_5, .int i_2, .int n10, .int n11, .int n12, .int n13, .long n14, .int i_7, .int i_8, .int i_9, .int i_10, .ref a_6, .ref a_7, .ref a_8, .ref a_9, .ref a_10, .ref a_11, .ref a_12, .ref a_13, .ref a_14, .ref a_15, .ref a_16, .ref a_17, .ref a_18, .int i_11, .int i_12, .int i_13, .int i_14, .int i_15, .int i_16, .ref a_19, .int i_17, .ref a_20])), (a_5, .inl (cy 0, 600, .inl f_0))] H) (hD : va_D A [(a_0, .inr (12, [.int i_1, .ref a_1, .ref a_2, .ref a_3, .ref a_4, .ref a_5, .int i_2, .int n10, .int n11, .int n12, .int n13, .long n14, .int i_7, .int i_8, .int i_9, .int i_10, .ref a_6, .ref a_7, .ref a_8, .ref a_9, .ref a_10, .ref a_11, .ref a_12, .ref a_13, .ref a_14, .ref a_15, .ref a_16, .ref a_17, .ref a_18, .int i_11, .int i_12, .int i_13, .int i_14, .int i_15, .int i_16, .ref a_19, .int i_17, .ref a_20])), (a_5, .inl (cy 0, 600, .inl f_0))]) hS
          obtain ⟨w15, w16, w17, w18, w19, w20, w21⟩ := hw
          replace w18 : (n12 : Int32).toInt ≤ (n10 : Int32).toInt := w18
          replace w19 : (n10 : Int32).toInt ≤ (i_2 : Int32).toInt := w19
          replace w20 : mm_tk n11 n12 n10 := w20
          replace w21 : (i_3 : Int32).toInt ≤ (n12 : Int32).toInt := w21
          refine lv_iload_n hx hb dX12_isRoom_29 rfl (lv_at hl 1 rfl) ?_
          refine lv_if_eq (tgt := 44) hx hb dX12_isRoom_30 (by decide) (fun c22 => ?_) (fun c22 => ?_)
          · exact mm_eqN c22.symm mm_k0 mm_k1 (by decide)
          · refine lv_aload_n hx hb dX12_isRoom_33 rfl (lv_at hl 0 rfl) ?_
            refine va_get (D := G) (ci := 12) (v := .int i_7) (C := RX12) (T := TX12) (N := 38) hx hb hts (mm_i inlX12) hown hK.1 hP 0 rfl rfl 12 (by decide) (mm_h hts mm_w436) (fun _ h9 => h9) rfl dX12_isRoom_34 ?_
            refine lv_if_ne (tgt := 44) hx hb dX12_isRoom_37 (by decide) (fun c23 => ?_) (fun c23 => ?_)
            · have q24 := mm_neL (lo := 1) (mm_ne c23) q9 mm_k0 (by decide) (by decide)
              exact mm_no q24 (by decide)
            · refine lv_iconst (v := 1) hx hb dX12_isRoom_40 (by decide) ?_
              refine lv_goto (tgt := 45) hx hb dX12_isRoom_41 (by decide) ?_
              have w25 : (i_5 : Int32).toInt ≤ (n12 : Int32).toInt := (by have := h7; have := w21; omega)
              subst hAe
              rw [hQ]
              exact W.zret (v := 1) hx hb hr rfl (fun t ht hW => ⟨⟨1, (n10, n11, n12, n13, n14), rfl, ⟨w15, w16, w17, w18, w19, w20, w25, (Or.inr rfl)⟩, by rw [ht]; exact hP, hK.warm hW, hD⟩, hS.F ht⟩) hS.2.2 dX12_isRoom_45
    · exact mm_eqN c2 h0 mm_k3 (by decide)

set_option maxHeartbeats 4000000 in
set_option maxRecDepth 100000 in
theorem M59_X12_tells (l : Launch) (G : va_G) (cy : Nat → ClassId) (sz : Nat) (a_0 : Nat) (i_0 : Int32) (i_1 : Int32) (a_1 : Nat) (a_2 : Nat) (a_3 : Nat) (a_4 : Nat) (a_5 : Nat) (i_2 : Int32) (i_3 : Int32) (i_4 : Int32) (i_5 : Int32) (i_6 : Int32) (j_0 : Int64) (i_7 : Int32) (i_8 : Int32) (i_9 : Int32) (i_10 : Int32) (a_6 : Nat) (a_7 : Nat) (a_8 : Nat) (a_9 : Nat) (a_10 : Nat) (a_11 : Nat) (a_12 : Nat) (a_13 : Nat) (a_14 : Nat) (a_15 : Nat) (a_16 : Nat) (a_17 : Nat) (a_18 : Nat) (i_11 : Int32) (i_12 : Int32) (i_13 : Int32) (i_14 : Int32) (i_15 : Int32) (i_16 : Int32) (a_19 : Nat) (i_17 : Int32) (a_20 : Nat) (i_18 : Int32) (i_19 : Int32) (i_20 : Int32) (i_21 : Int32) (i_22 : Int32) (i_23 : Int32) (i_24 : Int32) (i_25 : Int32) (i_26 : Int32) (i_27 : Int32) (i_28 : Int32) (i_29 : Int32) (i_30 : Int32) (i_31 : Int32) (i_32 : Int32) (i_33 : Int32) (i_34 : Int32) (i_35 : Int32) (i_36 : Int32) (i_37 : Int32) (i_38 : Int32) (i_39 : Int32) (i_40 : Int32) (i_41 : Int32) (i_42 : Int32) (i_43 : Int32) (i_44 : Int32) (i_45 : Int32) (i_46 : Int32) (i_47 : Int32) (h0 : mm_rg i_0 1 1) (h1 : mm_rg i_18 0 10) (h2 : mm_rg i_19 0 99) (h3 : mm_rg i_20 0 9) (h4 : mm_rg i_21 0 3) (h5 : mm_rg i_22 0 6) (h6 : mm_rg i_23 0 30) (h7 : mm_rg i_24 0 10) (h8 : mm_rg i_25 0 99) (h9 : mm_rg i_26 0 9) (h10 : mm_rg i_27 0 3) (h11 : mm_rg i_28 0 6) (h12 : mm_rg i_29 0 30) (h13 : mm_rg i_30 0 10) (h14 : mm_rg i_31 0 99) (h15 : mm_rg i_32 0 9) (h16 : mm_rg i_33 0 3) (h17 : mm_rg i_34 0 6) (h18 : mm_rg i_35 0 30) (h19 : mm_rg i_36 0 10) (h20 : mm_rg i_37 0 99) (h21 : mm_rg i_38 0 9) (h22 : mm_rg i_39 0 3) (h23 : mm_rg i_40 0 6) (h24 : mm_rg i_41 0 30) (h25 : mm_rg i_42 0 10) (h26 : mm_rg i_43 0 99) (h27 : mm_rg i_44 0 9) (h28 : mm_rg i_45 0 3) (h29 : mm_rg i_46 0 6) (h30 : mm_rg i_47 0 30)  : mm_CV l yX12_tells (mm_ws yX12_tells cX12_tells 3 (none)) ({ frames := 0, cells := 0, slots := 0, locals := 0 } : Room) G cy sz [(a_0, .inr (12, [.int i_1, .ref a_1, .ref a_2, .ref a_3, .ref a_4, .ref a_5, .int i_2, .int i_3, .int i_4, .int i_5, .int i_6, .long j_0, .int i_7, .int i_8, .int i_9, .int i_10, .ref a_6, .ref a_7, .ref a_8, .ref a_9, .ref a_10, .ref a_11, .ref a_12, .ref a_13, .ref a_14, .ref a_15, .ref a_16, .ref a_17, .ref a_18, .int i_11, .int i_12, .int i_13, .int i_14, .int i_15, .int i_16, .ref a_19, .int i_17, .ref a_20])), (a_7, .inl (cy 1, 30, .inl (mm_g [i_18, i_19, i_20, i_21, i_22, i_23, i_24, i_25, i_26, i_27, i_28, i_29, i_30, i_31, i_32, i_33, i_34, i_35, i_36, i_37, i_38, i_39, i_40, i_41, i_42, i_43, i_44, i_45, i_46, i_47])))] [.ref a_0, .int 3, .int i_0] (fun u : Unit => [(a_0, .inr (12, [.int i_1, .ref a_1, .ref a_2, .ref a_3, .ref a_4, .ref a_5, .int i_2, .int i_3, .int i_4, .int i_5, .int i_6, .long j_0, .int i_7, .int i_8, .int i_9, .int i_10, .ref a_6, .ref a_7, .ref a_8, .ref a_9, .ref a_10, .ref a_11, .ref a_12, .ref a_13, .ref a_14, .ref a_15, .ref a_16, .ref a_17, .ref a_18, .int i_11, .int i_12, .int i_13, .int i_14, .int i_15, .int i_16, .ref a_19, .int i_17, .ref a_20])), (a_7, .inl (cy 1, 30, .inl (mm_g [i_18, i_19, i_20, i_21, i_22, i_23, i_24, i_25, i_26, i_27, i_28, i_29, i_30, i_31, i_32, i_33, i_34, i_35, i_36, i_37, i_38, i_39, i_40, i_41, i_42, i_43, i_44, i_0, i_46, i_47])))]) (fun u : Unit => True) 0 0 := by
  refine mm_begin (lv := [(0, .ref a_0), (1, .int 3), (2, .int i_0)]) (by decide) (Nat.le_of_ble_eq_true rfl) rfl ?_
  intro p e s m below meth c A ls R args Q H locs hRe hQ hAe hx hb hr hlocks hml hown hnm hts hsz hA hS hP hK hD hZ hl
  have hRf : R.frames = 0 := by rw [hRe]
  have hRl : R.locals = 0 := by rw [hRe]
  have hRc : R.cells = 0 := by rw [hRe]
  have hRs : R.slots = 0 := by rw [hRe]
  refine lv_aload_n hx hb dX12_tells_0 rfl (lv_at hl 0 rfl) ?_
  refine va_get (D := G) (ci := 12) (v := .ref a_7) (C := RX12) (T := TX12) (N := 38) hx hb hts (mm_i inlX12) hown hK.1 hP 0 rfl rfl 17 (by decide) (mm_h hts mm_w149) (fun _ h9 => h9) rfl dX12_tells_1 ?_
  refine lv_bipush (v := 24) hx hb dX12_tells_4 (by decide) ?_
  refine lv_iload_n hx hb dX12_tells_6 rfl (lv_at hl 1 rfl) ?_
  refine lv_iadd hx hb dX12_tells_7 ?_
  refine lv_topi (fun v1 ev1 => ?_)
  obtain rfl : v1 = 27 := ev1.trans (by decide)
  refine lv_iload_n hx hb dX12_tells_8 rfl (lv_at hl 2 rfl) ?_
  refine va_iast hx hb hK.1 hP hD hS 1 1 rfl rfl (mm_in mm_k27 (by decide)) dX12_tells_9 ?_
  clear hP hD hS
  clear H locs
  rw [show upd (mm_g [i_18, i_19, i_20, i_21, i_22, i_23, i_24, i_25, i_26, i_27, i_28, i_29, i_30, i_31, i_32, i_33, i_34, i_35, i_36, i_37, i_38, i_39, i_40, i_41, i_42, i_43, i_44, i_45, i_46, i_47]) (27 : Int32).toNatClampNeg i_0 = (mm_g [i_18, i_19, i_20, i_21, i_22, i_23, i_24, i_25, i_26, i_27, i_28, i_29, i_30, i_31, i_32, i_33, i_34, i_35, i_36, i_37, i_38, i_39, i_40, i_41, i_42, i_43, i_44, i_0, i_46, i_47]) from mm_gs2 27 30 (by decide) rfl rfl rfl]
  intro H locs (hP : va_P G vwCl [(a_0, .inr (12, [.int i_1, .ref a_1, .ref a_2, .ref a_3, .ref a_4, .ref a_5, .int i_2, .int i_3, .int i_4, .int i_5, .int i_6, .long j_0, .int i_7, .int i_8, .int i_9, .int i_10, .ref a_6, .ref a_7, .ref a_8, .ref a_9, .ref a_10, .ref a_11, .ref a_12, .ref a_13, .ref a_14, .ref a_15, .ref a_16, .ref a_17, .ref a_18, .int i_11, .int i_12, .int i_13, .int i_14, .int i_15, .int i_16, .ref a_19, .int i_17, .ref a_20])), (a_7, .inl (cy 1, 30, .inl (mm_g [i_18, i_19, i_20, i_21, i_22, i_23, i_24, i_25, i_26, i_27, i_28, i_29, i_30, i_31, i_32, i_33, i_34, i_35, i_36, i_37, i_38, i_39, i_40, i_41, i_42, i_43, i_44, i_0, i_46, i_47])))] H) (hD : va_D A [(a_0, .inr (12, [.int i_1, .ref a_1, .ref a_2, .ref a_3, .ref a_4, .ref a_5, .int i_2, .int i_3, .int i_4, .int i_5, .int i_6, .long j_0, .int i_7, .int i_8, .int i_9, .int i_10, .ref a_6, .ref a_7, .ref a_8, .ref a_9, .ref a_10, .ref a_11, .ref a_12, .ref a_13, .ref a_14, .ref a_15, .ref a_16, .ref a_17, .ref a_18, .int i_11, .int i_12, .int i_13, .int i_14, .int i_15, .int i_16, .ref a_19, .int i_17, .ref a_20])), (a_7, .inl (cy 1, 30, .inl (mm_g [i_18, i_19, i_20, i_21, i_22, i_23, i_24, i_25, i_26, i_27, i_28, i_29, i_30, i_31, i_32, i_33, i_34, i_35, i_36, i_37, i_38, i_39, i_40, i_41, i_42, i_43, i_44, i_0, i_46, i_47])))]) hS
  subst hAe
  rw [hQ]
  exact W.vret hx hb hr (fun t ht hW => ⟨⟨(), rfl, trivial, by rw [ht]; exact hP, hK.warm hW, hD⟩, hS.F ht⟩) hS.2.2 dX12_tells_10

set_option maxHeartbeats 4000000 in
set_option maxRecDepth 100000 in
theorem M60_X12_isRoom (l : Launch) (G : va_G) (cy : Nat → ClassId) (sz : Nat) (a_0 : Nat) (i_0 : Int32) (h0 : mm_rg i_0 1 3)  : mm_CI l yX12_isRoom (mm_ws yX12_isRoom cX12_isRoom 4 (some .boolean)) ({ frames := 0, cells := 0, slots := 0, locals := 0 } : Room) G cy sz [] [.ref a_0, .int 0, .int i_0, .int 3] (fun u : Unit => []) (fun (r : Int32) (u : Unit) => 0 = r) 0 0 := by
  refine mm_begin (lv := [(0, .ref a_0), (1, .int 0), (2, .int i_0), (3, .int 3)]) (by decide) (Nat.le_of_ble_eq_true rfl) rfl ?_
  intro p e s m below meth c A ls R args Q H locs hRe hQ hAe hx hb hr hlocks hml hown hnm hts hsz hA hS hP hK hD hZ hl
  have hRf : R.frames = 0 := by rw [hRe]
  have hRl : R.locals = 0 := by rw [hRe]
  have hRc : R.cells = 0 := by rw [hRe]
  have hRs : R.slots = 0 := by rw [hRe]
  refine lv_iload_n hx hb dX12_isRoom_0 rfl (lv_at hl 1 rfl) ?_
  refine lv_if_eq (tgt := 14) hx hb dX12_isRoom_1 (by decide) (fun c1 => ?_) (fun c1 => ?_)
  · refine lv_iload_n hx hb dX12_isRoom_14 rfl (lv_at hl 1 rfl) ?_
    refine lv_if_eq (tgt := 29) hx hb dX12_isRoom_15 (by decide) (fun c2 => ?_) (fun c2 => ?_)
    · refine lv_iload_n hx hb dX12_isRoom_29 rfl (lv_at hl 1 rfl) ?_
      refine lv_if_eq (tgt := 44) hx hb dX12_isRoom_30 (by decide) (fun c3 => ?_) (fun c3 => ?_)
      · refine lv_iconst (v := 0) hx hb dX12_isRoom_44 (by decide) ?_
        subst hAe
        rw [hQ]
        exact W.zret (v := 0) hx hb hr rfl (fun t ht hW => ⟨⟨0, (), rfl, rfl, by rw [ht]; exact hP, hK.warm hW, hD⟩, hS.F ht⟩) hS.2.2 dX12_isRoom_45
      · exact absurd rfl (mm_ne c3)
    · exact absurd rfl (mm_ne c2)
  · exact absurd rfl (mm_ne c1)

set_option maxHeartbeats 4000000 in
set_option maxRecDepth 100000 in
theorem M61_X12_isRoom (l : Launch) (G : va_G) (cy : Nat → ClassId) (sz : Nat) (a_0 : Nat) (i_0 : Int32) (i_1 : Int32) (a_1 : Nat) (a_2 : Nat) (a_3 : Nat) (a_4 : Nat) (a_5 : Nat) (i_2 : Int32) (i_3 : Int32) (i_4 : Int32) (i_5 : Int32) (i_6 : Int32) (j_0 : Int64) (i_7 : Int32) (i_8 : Int32) (i_9 : Int32) (i_10 : Int32) (a_6 : Nat) (a_7 : Nat) (a_8 : Nat) (a_9 : Nat) (a_10 : Nat) (a_11 : Nat) (a_12 : Nat) (a_13 : Nat) (a_14 : Nat) (a_15 : Nat) (a_16 : Nat) (a_17 : Nat) (a_18 : Nat) (i_11 : Int32) (i_12 : Int32) (i_13 : Int32) (i_14 : Int32) (i_15 : Int32) (i_16 : Int32) (a_19 : Nat) (i_17 : Int32) (a_20 : Nat) (f_0 : Nat → Int32) (h0 : mm_rg i_0 0 7) (h1 : mm_rg i_2 0 600) (h2 : mm_rg i_3 0 600) (h3 : mm_rg i_4 0 4) (h4 : mm_rg i_5 0 600) (h5 : mm_rg i_7 0 3) (h6 : mm_ar f_0 (-128) 127) (h7 : (i_5 : Int32).toInt ≤ (i_3 : Int32).toInt) (h8 : (i_3 : Int32).toInt ≤ (i_2 : Int32).toInt) (h9 : mm_tk i_4 i_5 i_3)  : mm_CI l yX12_isRoom (mm_ws yX12_isRoom cX12_isRoom 4 (some .boolean)) ({ frames := 2, cells := 0, slots := 0, locals := 44 } : Room) G cy sz [(a_0, .inr (12, [.int i_1, .ref a_1, .ref a_2, .ref a_3, .ref a_4, .ref a_5, .int i_2, .int i_3, .int i_4, .int i_5, .int i_6, .long j_0, .int i_7, .int i_8, .int i_9, .int i_10, .ref a_6, .ref a_7, .ref a_8, .ref a_9, .ref a_10, .ref a_11, .ref a_12, .ref a_13, .ref a_14, .ref a_15, .ref a_16, .ref a_17, .ref a_18, .int i_11, .int i_12, .int i_13, .int i_14, .int i_15, .int i_16, .ref a_19, .int i_17, .ref a_20])), (a_5, .inl (cy 0, 600, .inl f_0))] [.ref a_0, .int 1, .int i_0, .int 7] (fun u : Int32 × Int32 × Int32 × Int32 × Int64 × Int32 × Int32 => [(a_0, .inr (12, [.int i_1, .ref a_1, .ref a_2, .ref a_3, .ref a_4, .ref a_5, .int i_2, .int u.1, .int u.2.1, .int u.2.2.1, .int u.2.2.2.1, .long u.2.2.2.2.1, .int u.2.2.2.2.2.1, .int u.2.2.2.2.2.2, .int i_9, .int i_10, .ref a_6, .ref a_7, .ref a_8, .ref a_9, .ref a_10, .ref a_11, .ref a_12, .ref a_13, .ref a_14, .ref a_15, .ref a_16, .ref a_17, .ref a_18, .int i_11, .int i_12, .int i_13, .int i_14, .int i_15, .int i_16, .ref a_19, .int i_17, .ref a_20])), (a_5, .inl (cy 0, 600, .inl f_0))]) (fun (r : Int32) (u : Int32 × Int32 × Int32 × Int32 × Int64 × Int32 × Int32) => mm_rg u.1 0 600 ∧ mm_rg u.2.1 0 4 ∧ mm_rg u.2.2.1 0 600 ∧ mm_rg u.2.2.2.2.2.1 0 3 ∧ (u.2.2.1 : Int32).toInt ≤ (u.1 : Int32).toInt ∧ (u.1 : Int32).toInt ≤ (i_2 : Int32).toInt ∧ mm_tk u.2.1 u.2.2.1 u.1 ∧ (i_5 : Int32).toInt ≤ (u.2.2.1 : Int32).toInt ∧ ((0 = r ∧ mm_rg i_0 0 7) ∨ (1 = r ∧ mm_rg i_0 0 6))) 0 0 := by
  refine mm_begin (lv := [(0, .ref a_0), (1, .int 1), (2, .int i_0), (3, .int 7)]) (by decide) (Nat.le_of_ble_eq_true rfl) rfl ?_
  intro p e s m below meth c A ls R args Q H locs hRe hQ hAe hx hb hr hlocks hml hown hnm hts hsz hA hS hP hK hD hZ hl
  have hRf : R.frames = 2 := by rw [hRe]
  have hRl : R.locals = 44 := by rw [hRe]
  have hRc : R.cells = 0 := by rw [hRe]
  have hRs : R.slots = 0 := by rw [hRe]
  refine lv_iload_n hx hb dX12_isRoom_0 rfl (lv_at hl 1 rfl) ?_
  refine lv_if_eq (tgt := 14) hx hb dX12_isRoom_1 (by decide) (fun c1 => ?_) (fun c1 => ?_)
  · exact mm_eqN c1.symm mm_k0 mm_k1 (by decide)
  · refine lv_iload_n hx hb dX12_isRoom_4 rfl (lv_at hl 2 rfl) ?_
    refine lv_iload_n hx hb dX12_isRoom_5 rfl (lv_at hl 3 rfl) ?_
    refine lv_icmp_ne (tgt := 14) hx hb dX12_isRoom_6 (by decide) (fun c2 => ?_) (fun c2 => ?_)
    · have q3 := mm_neH (hi := 6) (mm_ne c2) h0 mm_k7 (by decide) (by decide)
      refine lv_iload_n hx hb dX12_isRoom_14 rfl (lv_at hl 1 rfl) ?_
      refine lv_if_eq (tgt := 29) hx hb dX12_isRoom_15 (by decide) (fun c4 => ?_) (fun c4 => ?_)
      · exact mm_eqN c4.symm mm_k0 mm_k1 (by decide)
      · refine lv_aload_n hx hb dX12_isRoom_18 rfl (lv_at hl 0 rfl) ?_
        refine va_get (D := G) (ci := 12) (v := .int i_7) (C := RX12) (T := TX12) (N := 38) hx hb hts (mm_i inlX12) hown hK.1 hP 0 rfl rfl 12 (by decide) (mm_h hts mm_w436) (fun _ h9 => h9) rfl dX12_isRoom_19 ?_
        refine lv_if_ne (tgt := 29) hx hb dX12_isRoom_22 (by decide) (fun c5 => ?_) (fun c5 => ?_)
        · have q6 := mm_neL (lo := 1) (mm_ne c5) h5 mm_k0 (by decide) (by decide)
          refine lv_iload_n hx hb dX12_isRoom_29 rfl (lv_at hl 1 rfl) ?_
          refine lv_if_eq (tgt := 44) hx hb dX12_isRoom_30 (by decide) (fun c7 => ?_) (fun c7 => ?_)
          · exact mm_eqN c7.symm mm_k0 mm_k1 (by decide)
          · refine lv_aload_n hx hb dX12_isRoom_33 rfl (lv_at hl 0 rfl) ?_
            refine va_get (D := G) (ci := 12) (v := .int i_7) (C := RX12) (T := TX12) (N := 38) hx hb hts (mm_i inlX12) hown hK.1 hP 0 rfl rfl 12 (by decide) (mm_h hts mm_w436) (fun _ h9 => h9) rfl dX12_isRoom_34 ?_
            refine lv_if_ne (tgt := 44) hx hb dX12_isRoom_37 (by decide) (fun c8 => ?_) (fun c8 => ?_)
            · refine lv_iconst (v := 0) hx hb dX12_isRoom_44 (by decide) ?_
              have w9 : (i_5 : Int32).toInt ≤ (i_5 : Int32).toInt := (Int.le_refl _)
              subst hAe
              rw [hQ]
              exact W.zret (v := 0) hx hb hr rfl (fun t ht hW => ⟨⟨0, (i_3, i_4, i_5, i_6, j_0, i_7, i_8), rfl, ⟨h2, h3, h4, (mm_wk q6 (by decide)), h7, h8, h9, w9, (Or.inl ⟨rfl, (mm_wk q3 (by decide))⟩)⟩, by rw [ht]; exact hP, hK.warm hW, hD⟩, hS.F ht⟩) hS.2.2 dX12_isRoom_45
            · exact mm_eqN c8.symm mm_k0 q6 (by decide)
        · have q10 := mm_eqI (lo := 0) (hi := 0) c5 h5 mm_k0 (by decide)
          refine lv_aload_n hx hb dX12_isRoom_25 rfl (lv_at hl 0 rfl) ?_
          refine mm_finv (va_runV (As := []) (rest := []) ⟨hx, hb, hml, hown, hts⟩ (M22_X12_next l G cy H.size a_0 i_1 a_1 a_2 a_3 a_4 a_5 i_2 i_3 i_4 i_5 i_6 j_0 i_7 i_8 i_9 i_10 a_6 a_7 a_8 a_9 a_10 a_11 a_12 a_13 a_14 a_15 a_16 a_17 a_18 i_11 i_12 i_13 i_14 i_15 i_16 a_19 i_17 a_20 f_0 h1 h2 h3 h4 h6 h8) (cwV 0 hts (mm_gV mm_w451 mm_w452 mm_w453 mm_w5 mm_w454) rfl rfl rfl hd_X12_next ⟨by rw [hRf]; exact Nat.le_of_ble_eq_true rfl, by rw [hRl]; exact Nat.le_of_ble_eq_true rfl⟩) (mm_preV hK hZ hS hA hP hD [0, 1] rfl rfl 0 rfl rfl rfl) rfl rfl hl.1 rfl (lv_room (Nat.le_of_ble_eq_true rfl)) dX12_isRoom_26 ⟨by rw [hRc]; exact Nat.le_of_ble_eq_true rfl, by rw [hRs]; exact Nat.le_of_ble_eq_true rfl⟩) hP hD hS hA (fun u : Int32 × Int32 × Int32 × Int32 × Int64 => [(a_0, .inr (12, [.int i_1, .ref a_1, .ref a_2, .ref a_3, .ref a_4, .ref a_5, .int i_2, .int u.1, .int u.2.1, .int u.2.2.1, .int u.2.2.2.1, .long u.2.2.2.2, .int i_7, .int i_8, .int i_9, .int i_10, .ref a_6, .ref a_7, .ref a_8, .ref a_9, .ref a_10, .ref a_11, .ref a_12, .ref a_13, .ref a_14, .ref a_15, .ref a_16, .ref a_17, .ref a_18, .int i_11, .int i_12, .int i_13, .int i_14, .int i_15, .int i_16, .ref a_19, .int i_17, .ref a_20])), (a_5, .inl (cy 0, 600, .inl f_0))]) [0, 1] [] (n := 2) (fun _ => rfl) (by decide +kernel) (by decide +kernel) rfl (fun _ => rfl) (wr := []) rfl (fun _ => rfl) (fun _ => rfl) ?_
          clear hP hD hS
          clear H locs
          intro u
          obtain ⟨n11, n12, n13, n14, n15⟩ := u
          intro H locs hw (hP : va_P G vwCl [(a_0, .inr (12, [.int i_1, .ref a_1, .ref a_2, .ref a_3, .ref a_4, .ref a_5, .int i_2, .int n11, .int n12, .int n13, .int n14, .long n15, .int i_7, .int i_8, .int i_9, .int i_10, .ref a_6, .ref a_7, .ref a_8, .ref a_9, .ref a_10, .ref a_11, .ref a_12, .ref a_13, .ref a_14, .ref a_15, .ref a_16, .ref a_17, .ref a_18, .int i_11, .int i_12, .int i_13, .int i_14, .int i_15, .int i_16, .ref a_19, .int i_17, .ref a_20])), (a_5, .inl (cy 0, 600, .inl f_0))] H) (hD : va_D A [(a_0, .inr (12, [.int i_1, .ref a_1, .ref a_2, .ref a_3, .ref a_4, .ref a_5, .int i_2, .int n11, .int n12, .int n13, .int n14, .long n15, .int i_7, .int i_8, .int i_9, .int i_10, .ref a_6, .ref a_7, .ref a_8, .ref a_9, .ref a_10, .ref a_11, .ref a_12, .ref a_13, .ref a_14, .ref a_15, .ref a_16, .ref a_17, .ref a_18, .int i_11, .int i_12, .int i_13, .int i_14, .int i_15, .int i_16, .ref a_19, .int i_17, .ref a_20])), (a_5, .inl (cy 0, 600, .inl f_0))]) hS
          obtain ⟨w16, w17, w18, w19, w20, w21, w22⟩ := hw
          replace w19 : (n13 : Int32).toInt ≤ (n11 : Int32).toInt := w19
          replace w20 : (n11 : Int32).toInt ≤ (i_2 : Int32).toInt := w20
          replace w21 : mm_tk n12 n13 n11 := w21
          replace w22 : (i_3 : Int32).toInt ≤ (n13 : Int32).toInt := w22
          refine lv_iload_n hx hb dX12_isRoom_29 rfl (lv_at hl 1 rfl) ?_
          refine lv_if_eq (tgt := 44) hx hb dX12_isRoom_30 (by decide) (fun c23 => ?_) (fun c23 => ?_)
          · exact mm_eqN c23.symm mm_k0 mm_k1 (by decide)
          · refine lv_aload_n hx hb dX12_isRoom_33 rfl (lv_at hl 0 rfl) ?_
            refine va_get (D := G) (ci := 12) (v := .int i_7) (C := RX12) (T := TX12) (N := 38) hx hb hts (mm_i inlX12) hown hK.1 hP 0 rfl rfl 12 (by decide) (mm_h hts mm_w436) (fun _ h9 => h9) rfl dX12_isRoom_34 ?_
            refine lv_if_ne (tgt := 44) hx hb dX12_isRoom_37 (by decide) (fun c24 => ?_) (fun c24 => ?_)
            · have q25 := mm_neL (lo := 1) (mm_ne c24) q10 mm_k0 (by decide) (by decide)
              exact mm_no q25 (by decide)
            · refine lv_iconst (v := 1) hx hb dX12_isRoom_40 (by decide) ?_
              refine lv_goto (tgt := 45) hx hb dX12_isRoom_41 (by decide) ?_
              have w26 : (i_5 : Int32).toInt ≤ (n13 : Int32).toInt := (by have := h7; have := w22; omega)
              subst hAe
              rw [hQ]
              exact W.zret (v := 1) hx hb hr rfl (fun t ht hW => ⟨⟨1, (n11, n12, n13, n14, n15, i_7, i_8), rfl, ⟨w16, w17, w18, (mm_wk q10 (by decide)), w19, w20, w21, w26, (Or.inr ⟨rfl, q3⟩)⟩, by rw [ht]; exact hP, hK.warm hW, hD⟩, hS.F ht⟩) hS.2.2 dX12_isRoom_45
    · have q27 := mm_eqI (lo := 7) (hi := 7) c2 h0 mm_k7 (by decide)
      refine lv_aload_n hx hb dX12_isRoom_9 rfl (lv_at hl 0 rfl) ?_
      refine lv_iconst (v := 3) hx hb dX12_isRoom_10 (by decide) ?_
      refine mm_finv (va_runV (As := [.int 3]) (rest := []) ⟨hx, hb, hml, hown, hts⟩ (M45_X12_fails l G cy H.size a_0 i_1 a_1 a_2 a_3 a_4 a_5 i_2 i_3 i_4 i_5 i_6 j_0 i_7 i_8 i_9 i_10 a_6 a_7 a_8 a_9 a_10 a_11 a_12 a_13 a_14 a_15 a_16 a_17 a_18 i_11 i_12 i_13 i_14 i_15 i_16 a_19 i_17 a_20 h4 h5) (cwV 1 hts (mm_gV mm_w483 mm_w484 mm_w485 mm_w5 mm_w486) rfl rfl rfl hd_X12_fails ⟨by rw [hRf]; exact Nat.le_of_ble_eq_true rfl, by rw [hRl]; exact Nat.le_of_ble_eq_true rfl⟩) (mm_preV hK hZ hS hA hP hD [0] rfl rfl 0 rfl rfl rfl) rfl rfl hl.1 rfl (lv_room (Nat.le_of_ble_eq_true rfl)) dX12_isRoom_11 ⟨by rw [hRc]; exact Nat.le_of_ble_eq_true rfl, by rw [hRs]; exact Nat.le_of_ble_eq_true rfl⟩) hP hD hS hA (fun u : Int32 × Int32 => [(a_0, .inr (12, [.int i_1, .ref a_1, .ref a_2, .ref a_3, .ref a_4, .ref a_5, .int i_2, .int i_3, .int i_4, .int i_5, .int i_6, .long j_0, .int u.1, .int u.2, .int i_9, .int i_10, .ref a_6, .ref a_7, .ref a_8, .ref a_9, .ref a_10, .ref a_11, .ref a_12, .ref a_13, .ref a_14, .ref a_15, .ref a_16, .ref a_17, .ref a_18, .int i_11, .int i_12, .int i_13, .int i_14, .int i_15, .int i_16, .ref a_19, .int i_17, .ref a_20])), (a_5, .inl (cy 0, 600, .inl f_0))]) [0] [1] (n := 2) (fun _ => rfl) (by decide +kernel) (by decide +kernel) rfl (fun _ => rfl) (wr := [(a_5, .inl (cy 0, 600, .inl f_0))]) rfl (fun _ => rfl) (fun _ => rfl) ?_
      clear hP hD hS
      clear H locs
      intro u
      obtain ⟨n28, n29⟩ := u
      intro H locs hw (hP : va_P G vwCl [(a_0, .inr (12, [.int i_1, .ref a_1, .ref a_2, .ref a_3, .ref a_4, .ref a_5, .int i_2, .int i_3, .int i_4, .int i_5, .int i_6, .long j_0, .int n28, .int n29, .int i_9, .int i_10, .ref a_6, .ref a_7, .ref a_8, .ref a_9, .ref a_10, .ref a_11, .ref a_12, .ref a_13, .ref a_14, .ref a_15, .ref a_16, .ref a_17, .ref a_18, .int i_11, .int i_12, .int i_13, .int i_14, .int i_15, .int i_16, .ref a_19, .int i_17, .ref a_20])), (a_5, .inl (cy 0, 600, .inl f_0))] H) (hD : va_D A [(a_0, .inr (12, [.int i_1, .ref a_1, .ref a_2, .ref a_3, .ref a_4, .ref a_5, .int i_2, .int i_3, .int i_4, .int i_5, .int i_6, .long j_0, .int n28, .int n29, .int i_9, .int i_10, .ref a_6, .ref a_7, .ref a_8, .ref a_9, .ref a_10, .ref a_11, .ref a_12, .ref a_13, .ref a_14, .ref a_15, .ref a_16, .ref a_17, .ref a_18, .int i_11, .int i_12, .int i_13, .int i_14, .int i_15, .int i_16, .ref a_19, .int i_17, .ref a_20])), (a_5, .inl (cy 0, 600, .inl f_0))]) hS
      have w30 := hw
      refine lv_iload_n hx hb dX12_isRoom_14 rfl (lv_at hl 1 rfl) ?_
      refine lv_if_eq (tgt := 29) hx hb dX12_isRoom_15 (by decide) (fun c31 => ?_) (fun c31 => ?_)
      · exact mm_eqN c31.symm mm_k0 mm_k1 (by decide)
      · refine lv_aload_n hx hb dX12_isRoom_18 rfl (lv_at hl 0 rfl) ?_
        refine va_get (D := G) (ci := 12) (v := .int n28) (C := RX12) (T := TX12) (N := 38) hx hb hts (mm_i inlX12) hown hK.1 hP 0 rfl rfl 12 (by decide) (mm_h hts mm_w436) (fun _ h9 => h9) rfl dX12_isRoom_19 ?_
        refine lv_if_ne (tgt := 29) hx hb dX12_isRoom_22 (by decide) (fun c32 => ?_) (fun c32 => ?_)
        · refine lv_iload_n hx hb dX12_isRoom_29 rfl (lv_at hl 1 rfl) ?_
          refine lv_if_eq (tgt := 44) hx hb dX12_isRoom_30 (by decide) (fun c33 => ?_) (fun c33 => ?_)
          · exact mm_eqN c33.symm mm_k0 mm_k1 (by decide)
          · refine lv_aload_n hx hb dX12_isRoom_33 rfl (lv_at hl 0 rfl) ?_
            refine va_get (D := G) (ci := 12) (v := .int n28) (C := RX12) (T := TX12) (N := 38) hx hb hts (mm_i inlX12) hown hK.1 hP 0 rfl rfl 12 (by decide) (mm_h hts mm_w436) (fun _ h9 => h9) rfl dX12_isRoom_34 ?_
            refine lv_if_ne (tgt := 44) hx hb dX12_isRoom_37 (by decide) (fun c34 => ?_) (fun c34 => ?_)
            · refine lv_iconst (v := 0) hx hb dX12_isRoom_44 (by decide) ?_
              have w35 : (i_5 : Int32).toInt ≤ (i_5 : Int32).toInt := (Int.le_refl _)
              subst hAe
              rw [hQ]
              exact W.zret (v := 0) hx hb hr rfl (fun t ht hW => ⟨⟨0, (i_3, i_4, i_5, i_6, j_0, n28, n29), rfl, ⟨h2, h3, h4, (mm_wk w30 (by decide)), h7, h8, h9, w35, (Or.inl ⟨rfl, (mm_wk q27 (by decide))⟩)⟩, by rw [ht]; exact hP, hK.warm hW, hD⟩, hS.F ht⟩) hS.2.2 dX12_isRoom_45
            · exact mm_eqN c34.symm mm_k0 w30 (by decide)
        · exact mm_eqN c32.symm mm_k0 w30 (by decide)

set_option maxHeartbeats 4000000 in
set_option maxRecDepth 100000 in
theorem M62_X12_otherWord (l : Launch) (G : va_G) (cy : Nat → ClassId) (sz : Nat) (a_0 : Nat) (i_0 : Int32) (i_1 : Int32) (i_2 : Int32) (a_1 : Nat) (a_2 : Nat) (a_3 : Nat) (a_4 : Nat) (a_5 : Nat) (i_3 : Int32) (i_4 : Int32) (i_5 : Int32) (i_6 : Int32) (i_7 : Int32) (j_0 : Int64) (i_8 : Int32) (i_9 : Int32) (i_10 : Int32) (i_11 : Int32) (a_6 : Nat) (a_7 : Nat) (a_8 : Nat) (a_9 : Nat) (a_10 : Nat) (a_11 : Nat) (a_12 : Nat) (a_13 : Nat) (a_14 : Nat) (a_15 : Nat) (a_16 : Nat) (a_17 : Nat) (a_18 : Nat) (i_12 : Int32) (i_13 : Int32) (i_14 : Int32) (i_15 : Int32) (i_16 : Int32) (i_17 : Int32) (a_19 : Nat) (i_18 : Int32) (a_20 : Nat) (f_0 : Nat → Int32) (i_19 : Int32) (i_20 : Int32) (i_21 : Int32) (i_22 : Int32) (i_23 : Int32) (i_24 : Int32) (i_25 : Int32) (i_26 : Int32) (i_27 : Int32) (i_28 : Int32) (i_29 : Int32) (i_30 : Int32) (i_31 : Int32) (i_32 : Int32) (i_33 : Int32) (i_34 : Int32) (i_35 : Int32) (i_36 : Int32) (i_37 : Int32) (i_38 : Int32) (i_39 : Int32) (i_40 : Int32) (i_41 : Int32) (i_42 : Int32) (i_43 : Int32) (i_44 : Int32) (i_45 : Int32) (i_46 : Int32) (i_47 : Int32) (i_48 : Int32) (h0 : mm_rg i_0 0 9) (h1 : mm_rg i_1 0 9) (h2 : mm_rg i_3 0 600) (h3 : mm_rg i_4 0 600) (h4 : mm_rg i_5 0 4) (h5 : mm_rg i_6 0 600) (h6 : mm_rg i_8 0 3) (h7 : mm_ar f_0 (-128) 127) (h8 : mm_rg i_19 0 10) (h9 : mm_rg i_20 0 99) (h10 : mm_rg i_21 0 9) (h11 : mm_rg i_22 0 3) (h12 : mm_rg i_23 0 6) (h13 : mm_rg i_24 0 30) (h14 : mm_rg i_25 0 10) (h15 : mm_rg i_26 0 99) (h16 : mm_rg i_27 0 9) (h17 : mm_rg i_28 0 3) (h18 : mm_rg i_29 0 6) (h19 : mm_rg i_30 0 30) (h20 : mm_rg i_31 0 10) (h21 : mm_rg i_32 0 99) (h22 : mm_rg i_33 0 9) (h23 : mm_rg i_34 0 3) (h24 : mm_rg i_35 0 6) (h25 : mm_rg i_36 0 30) (h26 : mm_rg i_37 0 10) (h27 : mm_rg i_38 0 99) (h28 : mm_rg i_39 0 9) (h29 : mm_rg i_40 0 3) (h30 : mm_rg i_41 0 6) (h31 : mm_rg i_42 0 30) (h32 : mm_rg i_43 0 10) (h33 : mm_rg i_44 0 99) (h34 : mm_rg i_45 0 9) (h35 : mm_rg i_46 0 3) (h36 : mm_rg i_47 0 6) (h37 : mm_rg i_48 0 30) (h38 : (i_6 : Int32).toInt ≤ (i_4 : Int32).toInt) (h39 : (i_4 : Int32).toInt ≤ (i_3 : Int32).toInt) (h40 : mm_tk i_5 i_6 i_4)  : mm_CI l yX12_otherWord (mm_ws yX12_otherWord cX12_otherWord 3 (some .int)) ({ frames := 4, cells := 0, slots := 0, locals := 87 } : Room) G cy sz [(a_0, .inr (12, [.int i_2, .ref a_1, .ref a_2, .ref a_3, .ref a_4, .ref a_5, .int i_3, .int i_4, .int i_5, .int i_6, .int i_7, .long j_0, .int i_8, .int i_9, .int i_10, .int i_11, .ref a_6, .ref a_7, .ref a_8, .ref a_9, .ref a_10, .ref a_11, .ref a_12, .ref a_13, .ref a_14, .ref a_15, .ref a_16, .ref a_17, .ref a_18, .int i_12, .int i_13, .int i_14, .int i_15, .int i_16, .int i_17, .ref a_19, .int i_18, .ref a_20])), (a_5, .inl (cy 0, 600, .inl f_0)), (a_7, .inl (cy 1, 30, .inl (mm_g [i_19, i_20, i_21, i_22, i_23, i_24, i_25, i_26, i_27, i_28, i_29, i_30, i_31, i_32, i_33, i_34, i_35, i_36, i_37, i_38, i_39, i_40, i_41, i_42, i_43, i_44, i_45, i_46, i_47, i_48])))] [.ref a_0, .int i_0, .int i_1] (fun u : Int32 × Int32 × Int32 × Int32 × Int64 × Int32 × Int32 => [(a_0, .inr (12, [.int i_2, .ref a_1, .ref a_2, .ref a_3, .ref a_4, .ref a_5, .int i_3, .int u.1, .int u.2.1, .int u.2.2.1, .int u.2.2.2.1, .long u.2.2.2.2.1, .int u.2.2.2.2.2.1, .int u.2.2.2.2.2.2, .int i_10, .int i_11, .ref a_6, .ref a_7, .ref a_8, .ref a_9, .ref a_10, .ref a_11, .ref a_12, .ref a_13, .ref a_14, .ref a_15, .ref a_16, .ref a_17, .ref a_18, .int i_12, .int i_13, .int i_14, .int i_15, .int i_16, .int i_17, .ref a_19, .int i_18, .ref a_20])), (a_5, .inl (cy 0, 600, .inl f_0)), (a_7, .inl (cy 1, 30, .inl (mm_g [i_19, i_20, i_21, i_22, i_23, i_24, i_25, i_26, i_27, i_28, i_29, i_30, i_31, i_32, i_33, i_34, i_35, i_36, i_37, i_38, i_39, i_40, i_41, i_42, i_43, i_44, i_45, i_46, i_47, i_48])))]) (fun (r : Int32) (u : Int32 × Int32 × Int32 × Int32 × Int64 × Int32 × Int32) => mm_rg u.1 0 600 ∧ mm_rg u.2.1 0 4 ∧ mm_rg u.2.2.1 0 600 ∧ mm_rg u.2.2.2.2.2.1 0 3 ∧ (u.2.2.1 : Int32).toInt ≤ (u.1 : Int32).toInt ∧ (u.1 : Int32).toInt ≤ (i_3 : Int32).toInt ∧ mm_tk u.2.1 u.2.2.1 u.1 ∧ (i_6 : Int32).toInt ≤ (u.2.2.1 : Int32).toInt ∧ mm_b0 i_8 u.2.2.2.2.2.1 ∧ mm_rg r 0 9 ∧ (r : Int32).toInt ≤ (i_45 : Int32).toInt ∧ mm_nq u.2.2.2.2.2.1 r i_0 ∧ mm_nq u.2.2.2.2.2.1 r i_1) 0 0 := by
  refine mm_begin (lv := [(0, .ref a_0), (1, .int i_0), (2, .int i_1)]) (by decide) (Nat.le_of_ble_eq_true rfl) rfl ?_
  intro p e s m below meth c A ls R args Q H locs hRe hQ hAe hx hb hr hlocks hml hown hnm hts hsz hA hS hP hK hD hZ hl
  have hRf : R.frames = 4 := by rw [hRe]
  have hRl : R.locals = 87 := by rw [hRe]
  have hRc : R.cells = 0 := by rw [hRe]
  have hRs : R.slots = 0 := by rw [hRe]
  refine lv_aload_n hx hb dX12_otherWord_0 rfl (lv_at hl 0 rfl) ?_
  refine va_get (D := G) (ci := 12) (v := .int i_8) (C := RX12) (T := TX12) (N := 38) hx hb hts (mm_i inlX12) hown hK.1 hP 0 rfl rfl 12 (by decide) (mm_h hts mm_w436) (fun _ h9 => h9) rfl dX12_otherWord_1 ?_
  refine lv_if_ne (tgt := 36) hx hb dX12_otherWord_4 (by decide) (fun c1 => ?_) (fun c1 => ?_)
  · have q2 := mm_neL (lo := 1) (mm_ne c1) h6 mm_k0 (by decide) (by decide)
    refine lv_aload_n hx hb dX12_otherWord_36 rfl (lv_at hl 0 rfl) ?_
    refine mm_finir (va_runV (As := []) (rest := []) ⟨hx, hb, hml, hown, hts⟩ (M52_X12_wordHere l G cy H.size a_0 i_2 a_1 a_2 a_3 a_4 a_5 i_3 i_4 i_5 i_6 i_7 j_0 i_8 i_9 i_10 i_11 a_6 a_7 a_8 a_9 a_10 a_11 a_12 a_13 a_14 a_15 a_16 a_17 a_18 i_12 i_13 i_14 i_15 i_16 i_17 a_19 i_18 a_20 i_19 i_20 i_21 i_22 i_23 i_24 i_25 i_26 i_27 i_28 i_29 i_30 i_31 i_32 i_33 i_34 i_35 i_36 i_37 i_38 i_39 i_40 i_41 i_42 i_43 i_44 i_45 i_46 i_47 i_48 h3 h4 h5 q2 h8 h9 h10 h11 h12 h13 h14 h15 h16 h17 h18 h19 h20 h21 h22 h23 h24 h25 h26 h27 h28 h29 h30 h31 h32 h33 h34 h35 h36 h37 h38 h39 h40) (cwV 0 hts (mm_gV mm_w532 mm_w533 mm_w534 mm_w5 mm_w535) rfl rfl rfl hd_X12_wordHere ⟨by rw [hRf]; exact Nat.le_of_ble_eq_true rfl, by rw [hRl]; exact Nat.le_of_ble_eq_true rfl⟩) (mm_preV hK hZ hS hA hP hD [0, 2] rfl rfl 0 rfl rfl rfl) rfl rfl hl.1 rfl (lv_room (Nat.le_of_ble_eq_true rfl)) dX12_otherWord_37 ⟨by rw [hRc]; exact Nat.le_of_ble_eq_true rfl, by rw [hRs]; exact Nat.le_of_ble_eq_true rfl⟩) hP hD hS hA [0, 2] rfl (fun _ => rfl) ?_
    clear hP hD hS
    clear H locs
    intro v3 _u H locs hw hP hD hS
    obtain ⟨rfl, w4, w5⟩ := hw
    have w6 : (i_6 : Int32).toInt ≤ (i_6 : Int32).toInt := (Int.le_refl _)
    have w7 : mm_b0 i_8 i_8 := (fun h => h)
    have w8 : mm_nq i_8 0 i_0 := (mm_nq_n q2 (by decide))
    have w9 : mm_nq i_8 0 i_1 := (mm_nq_n q2 (by decide))
    subst hAe
    rw [hQ]
    exact W.iret (v := 0) hx hb hr (fun t ht hW => ⟨⟨0, (i_4, i_5, i_6, i_7, j_0, i_8, i_9), rfl, ⟨h3, h4, h5, (mm_wk q2 (by decide)), h38, h39, h40, w6, w7, ⟨(mm_wk mm_k0 (by decide)), w4, w8, w9⟩⟩, by rw [ht]; exact hP, hK.warm hW, hD⟩, hS.F ht⟩) hS.2.2 dX12_otherWord_40
  · have q10 := mm_eqI (lo := 0) (hi := 0) c1 h6 mm_k0 (by decide)
    refine lv_aload_n hx hb dX12_otherWord_7 rfl (lv_at hl 0 rfl) ?_
    refine va_get (D := G) (ci := 12) (v := .int i_5) (C := RX12) (T := TX12) (N := 38) hx hb hts (mm_i inlX12) hown hK.1 hP 0 rfl rfl 8 (by decide) (mm_h hts mm_w432) (fun _ h9 => h9) rfl dX12_otherWord_8 ?_
    refine lv_iconst (v := 2) hx hb dX12_otherWord_11 (by decide) ?_
    refine lv_icmp_ne (tgt := 36) hx hb dX12_otherWord_12 (by decide) (fun c11 => ?_) (fun c11 => ?_)
    · refine lv_aload_n hx hb dX12_otherWord_36 rfl (lv_at hl 0 rfl) ?_
      refine mm_fini (va_runV (As := []) (rest := []) ⟨hx, hb, hml, hown, hts⟩ (M50_X12_wordHere l G cy H.size a_0 i_2 a_1 a_2 a_3 a_4 a_5 i_3 i_4 i_5 i_6 i_7 j_0 i_8 i_9 i_10 i_11 a_6 a_7 a_8 a_9 a_10 a_11 a_12 a_13 a_14 a_15 a_16 a_17 a_18 i_12 i_13 i_14 i_15 i_16 i_17 a_19 i_18 a_20 f_0 i_19 i_20 i_21 i_22 i_23 i_24 i_25 i_26 i_27 i_28 i_29 i_30 i_31 i_32 i_33 i_34 i_35 i_36 i_37 i_38 i_39 i_40 i_41 i_42 i_43 i_44 i_45 i_46 i_47 i_48 h2 h3 h4 h5 q10 h7 h8 h9 h10 h11 h12 h13 h14 h15 h16 h17 h18 h19 h20 h21 h22 h23 h24 h25 h26 h27 h28 h29 h30 h31 h32 h33 h34 h35 h36 h37 h38 h39 h40) (cwV 0 hts (mm_gV mm_w532 mm_w533 mm_w534 mm_w5 mm_w535) rfl rfl rfl hd_X12_wordHere ⟨by rw [hRf]; exact Nat.le_of_ble_eq_true rfl, by rw [hRl]; exact Nat.le_of_ble_eq_true rfl⟩) (mm_preV hK hZ hS hA hP hD [0, 1, 2] rfl rfl 0 rfl rfl rfl) rfl rfl hl.1 rfl (lv_room (Nat.le_of_ble_eq_true rfl)) dX12_otherWord_37 ⟨by rw [hRc]; exact Nat.le_of_ble_eq_true rfl, by rw [hRs]; exact Nat.le_of_ble_eq_true rfl⟩) hP hD hS hA (fun u : Int32 × Int32 × Int32 × Int32 × Int64 × Int32 × Int32 => [(a_0, .inr (12, [.int i_2, .ref a_1, .ref a_2, .ref a_3, .ref a_4, .ref a_5, .int i_3, .int u.1, .int u.2.1, .int u.2.2.1, .int u.2.2.2.1, .long u.2.2.2.2.1, .int u.2.2.2.2.2.1, .int u.2.2.2.2.2.2, .int i_10, .int i_11, .ref a_6, .ref a_7, .ref a_8, .ref a_9, .ref a_10, .ref a_11, .ref a_12, .ref a_13, .ref a_14, .ref a_15, .ref a_16, .ref a_17, .ref a_18, .int i_12, .int i_13, .int i_14, .int i_15, .int i_16, .int i_17, .ref a_19, .int i_18, .ref a_20])), (a_5, .inl (cy 0, 600, .inl f_0)), (a_7, .inl (cy 1, 30, .inl (mm_g [i_19, i_20, i_21, i_22, i_23, i_24, i_25, i_26, i_27, i_28, i_29, i_30, i_31, i_32, i_33, i_34, i_35, i_36, i_37, i_38, i_39, i_40, i_41, i_42, i_43, i_44, i_45, i_46, i_47, i_48])))]) [0, 1, 2] [] (n := 3) (fun _ => rfl) (by decide +kernel) (by decide +kernel) rfl (fun _ => rfl) (wr := []) rfl (fun _ => rfl) (fun _ => @rfl _ ([a_0, a_5, a_7] : List Nat)) ?_
      clear hP hD hS
      clear H locs
      intro v19 u
      obtain ⟨n12, n13, n14, n15, n16, n17, n18⟩ := u
      intro H locs hw (hP : va_P G vwCl [(a_0, .inr (12, [.int i_2, .ref a_1, .ref a_2, .ref a_3, .ref a_4, .ref a_5, .int i_3, .int n12, .int n13, .int n14, .int n15, .long n16, .int n17, .int n18, .int i_10, .int i_11, .ref a_6, .ref a_7, .ref a_8, .ref a_9, .ref a_10, .ref a_11, .ref a_12, .ref a_13, .ref a_14, .ref a_15, .ref a_16, .ref a_17, .ref a_18, .int i_12, .int i_13, .int i_14, .int i_15, .int i_16, .int i_17, .ref a_19, .int i_18, .ref a_20])), (a_5, .inl (cy 0, 600, .inl f_0)), (a_7, .inl (cy 1, 30, .inl (mm_g [i_19, i_20, i_21, i_22, i_23, i_24, i_25, i_26, i_27, i_28, i_29, i_30, i_31, i_32, i_33, i_34, i_35, i_36, i_37, i_38, i_39, i_40, i_41, i_42, i_43, i_44, i_45, i_46, i_47, i_48])))] H) (hD : va_D A [(a_0, .inr (12, [.int i_2, .ref a_1, .ref a_2, .ref a_3, .ref a_4, .ref a_5, .int i_3, .int n12, .int n13, .int n14, .int n15, .long n16, .int n17, .int n18, .int i_10, .int i_11, .ref a_6, .ref a_7, .ref a_8, .ref a_9, .ref a_10, .ref a_11, .ref a_12, .ref a_13, .ref a_14, .ref a_15, .ref a_16, .ref a_17, .ref a_18, .int i_12, .int i_13, .int i_14, .int i_15, .int i_16, .int i_17, .ref a_19, .int i_18, .ref a_20])), (a_5, .inl (cy 0, 600, .inl f_0)), (a_7, .inl (cy 1, 30, .inl (mm_g [i_19, i_20, i_21, i_22, i_23, i_24, i_25, i_26, i_27, i_28, i_29, i_30, i_31, i_32, i_33, i_34, i_35, i_36, i_37, i_38, i_39, i_40, i_41, i_42, i_43, i_44, i_45, i_46, i_47, i_48])))]) hS
      obtain ⟨w20, w21, w22, w23, w24, w25, w26, w27, w28, hw⟩ := hw
      replace w24 : (n14 : Int32).toInt ≤ (n12 : Int32).toInt := w24
      replace w25 : (n12 : Int32).toInt ≤ (i_3 : Int32).toInt := w25
      replace w26 : mm_tk n13 n14 n12 := w26
      replace w27 : (i_6 : Int32).toInt ≤ (n14 : Int32).toInt := w27
      replace w28 : mm_b0 i_8 n17 := w28
      obtain ⟨w29, w30, w31⟩ := hw
      replace w30 : (v19 : Int32).toInt ≤ (i_45 : Int32).toInt := w30
      replace w31 : mm_nv n17 v19 i_5 i_7 := w31
      have w32 : mm_nq n17 v19 i_0 := (mm_nq_t w31 (mm_ne c11))
      have w33 : mm_nq n17 v19 i_1 := (mm_nq_t w31 (mm_ne c11))
      subst hAe
      rw [hQ]
      exact W.iret (v := v19) hx hb hr (fun t ht hW => ⟨⟨v19, (n12, n13, n14, n15, n16, n17, n18), rfl, ⟨w20, w21, w22, w23, w24, w25, w26, w27, w28, ⟨w29, w30, w32, w33⟩⟩, by rw [ht]; exact hP, hK.warm hW, hD⟩, hS.F ht⟩) hS.2.2 dX12_otherWord_40
    · have q34 := mm_eqI (lo := 2) (hi := 2) c11 h4 mm_k2 (by decide)
      refine lv_aload_n hx hb dX12_otherWord_15 rfl (lv_at hl 0 rfl) ?_
      refine va_get (D := G) (ci := 12) (v := .int i_7) (C := RX12) (T := TX12) (N := 38) hx hb hts (mm_i inlX12) hown hK.1 hP 0 rfl rfl 10 (by decide) (mm_h hts mm_w456) (fun _ h9 => h9) rfl dX12_otherWord_16 ?_
      refine lv_iload_n hx hb dX12_otherWord_19 rfl (lv_at hl 1 rfl) ?_
      refine lv_icmp_eq (tgt := 31) hx hb dX12_otherWord_20 (by decide) (fun c35 => ?_) (fun c35 => ?_)
      · have q36 := mm_eqI (lo := 0) (hi := 9) c35 (mm_top i_7) h0 (by decide)
        refine lv_aload_n hx hb dX12_otherWord_31 rfl (lv_at hl 0 rfl) ?_
        refine lv_iconst (v := 2) hx hb dX12_otherWord_32 (by decide) ?_
        refine mm_finv (va_runV (As := [.int 2]) (rest := []) ⟨hx, hb, hml, hown, hts⟩ (M29_X12_fails l G cy H.size a_0 i_2 a_1 a_2 a_3 a_4 a_5 i_3 i_4 i_5 i_6 i_7 j_0 i_8 i_9 i_10 i_11 a_6 a_7 a_8 a_9 a_10 a_11 a_12 a_13 a_14 a_15 a_16 a_17 a_18 i_12 i_13 i_14 i_15 i_16 i_17 a_19 i_18 a_20 h5 (mm_wk q10 (by decide))) (cwV 1 hts (mm_gV mm_w483 mm_w484 mm_w485 mm_w5 mm_w486) rfl rfl rfl hd_X12_fails ⟨by rw [hRf]; exact Nat.le_of_ble_eq_true rfl, by rw [hRl]; exact Nat.le_of_ble_eq_true rfl⟩) (mm_preV hK hZ hS hA hP hD [0] rfl rfl 0 rfl rfl rfl) rfl rfl hl.1 rfl (lv_room (Nat.le_of_ble_eq_true rfl)) dX12_otherWord_33 ⟨by rw [hRc]; exact Nat.le_of_ble_eq_true rfl, by rw [hRs]; exact Nat.le_of_ble_eq_true rfl⟩) hP hD hS hA (fun u : Int32 × Int32 => [(a_0, .inr (12, [.int i_2, .ref a_1, .ref a_2, .ref a_3, .ref a_4, .ref a_5, .int i_3, .int i_4, .int i_5, .int i_6, .int i_7, .long j_0, .int u.1, .int u.2, .int i_10, .int i_11, .ref a_6, .ref a_7, .ref a_8, .ref a_9, .ref a_10, .ref a_11, .ref a_12, .ref a_13, .ref a_14, .ref a_15, .ref a_16, .ref a_17, .ref a_18, .int i_12, .int i_13, .int i_14, .int i_15, .int i_16, .int i_17, .ref a_19, .int i_18, .ref a_20])), (a_5, .inl (cy 0, 600, .inl f_0)), (a_7, .inl (cy 1, 30, .inl (mm_g [i_19, i_20, i_21, i_22, i_23, i_24, i_25, i_26, i_27, i_28, i_29, i_30, i_31, i_32, i_33, i_34, i_35, i_36, i_37, i_38, i_39, i_40, i_41, i_42, i_43, i_44, i_45, i_46, i_47, i_48])))]) [0] [1, 2] (n := 3) (fun _ => rfl) (by decide +kernel) (by decide +kernel) rfl (fun _ => rfl) (wr := [(a_5, .inl (cy 0, 600, .inl f_0)), (a_7, .inl (cy 1, 30, .inl (mm_g [i_19, i_20, i_21, i_22, i_23, i_24, i_25, i_26, i_27, i_28, i_29, i_30, i_31, i_32, i_33, i_34, i_35, i_36, i_37, i_38, i_39, i_40, i_41, i_42, i_43, i_44, i_45, i_46, i_47, i_48])))]) rfl (fun _ => rfl) (fun _ => rfl) ?_
        clear hP hD hS
        clear H locs
        intro u
        obtain ⟨n37, n38⟩ := u
        intro H locs hw (hP : va_P G vwCl [(a_0, .inr (12, [.int i_2, .ref a_1, .ref a_2, .ref a_3, .ref a_4, .ref a_5, .int i_3, .int i_4, .int i_5, .int i_6, .int i_7, .long j_0, .int n37, .int n38, .int i_10, .int i_11, .ref a_6, .ref a_7, .ref a_8, .ref a_9, .ref a_10, .ref a_11, .ref a_12, .ref a_13, .ref a_14, .ref a_15, .ref a_16, .ref a_17, .ref a_18, .int i_12, .int i_13, .int i_14, .int i_15, .int i_16, .int i_17, .ref a_19, .int i_18, .ref a_20])), (a_5, .inl (cy 0, 600, .inl f_0)), (a_7, .inl (cy 1, 30, .inl (mm_g [i_19, i_20, i_21, i_22, i_23, i_24, i_25, i_26, i_27, i_28, i_29, i_30, i_31, i_32, i_33, i_34, i_35, i_36, i_37, i_38, i_39, i_40, i_41, i_42, i_43, i_44, i_45, i_46, i_47, i_48])))] H) (hD : va_D A [(a_0, .inr (12, [.int i_2, .ref a_1, .ref a_2, .ref a_3, .ref a_4, .ref a_5, .int i_3, .int i_4, .int i_5, .int i_6, .int i_7, .long j_0, .int n37, .int n38, .int i_10, .int i_11, .ref a_6, .ref a_7, .ref a_8, .ref a_9, .ref a_10, .ref a_11, .ref a_12, .ref a_13, .ref a_14, .ref a_15, .ref a_16, .ref a_17, .ref a_18, .int i_12, .int i_13, .int i_14, .int i_15, .int i_16, .int i_17, .ref a_19, .int i_18, .ref a_20])), (a_5, .inl (cy 0, 600, .inl f_0)), (a_7, .inl (cy 1, 30, .inl (mm_g [i_19, i_20, i_21, i_22, i_23, i_24, i_25, i_26, i_27, i_28, i_29, i_30, i_31, i_32, i_33, i_34, i_35, i_36, i_37, i_38, i_39, i_40, i_41, i_42, i_43, i_44, i_45, i_46, i_47, i_48])))]) hS
        have w39 := hw
        refine lv_aload_n hx hb dX12_otherWord_36 rfl (lv_at hl 0 rfl) ?_
        refine mm_finir (va_runV (As := []) (rest := []) ⟨hx, hb, hml, hown, hts⟩ (M52_X12_wordHere l G cy H.size a_0 i_2 a_1 a_2 a_3 a_4 a_5 i_3 i_4 i_5 i_6 i_7 j_0 n37 n38 i_10 i_11 a_6 a_7 a_8 a_9 a_10 a_11 a_12 a_13 a_14 a_15 a_16 a_17 a_18 i_12 i_13 i_14 i_15 i_16 i_17 a_19 i_18 a_20 i_19 i_20 i_21 i_22 i_23 i_24 i_25 i_26 i_27 i_28 i_29 i_30 i_31 i_32 i_33 i_34 i_35 i_36 i_37 i_38 i_39 i_40 i_41 i_42 i_43 i_44 i_45 i_46 i_47 i_48 h3 (mm_wk q34 (by decide)) h5 w39 h8 h9 h10 h11 h12 h13 h14 h15 h16 h17 h18 h19 h20 h21 h22 h23 h24 h25 h26 h27 h28 h29 h30 h31 h32 h33 h34 h35 h36 h37 h38 h39 h40) (cwV 0 hts (mm_gV mm_w532 mm_w533 mm_w534 mm_w5 mm_w535) rfl rfl rfl hd_X12_wordHere ⟨by rw [hRf]; exact Nat.le_of_ble_eq_true rfl, by rw [hRl]; exact Nat.le_of_ble_eq_true rfl⟩) (mm_preV hK hZ hS hA hP hD [0, 2] rfl rfl 0 rfl rfl rfl) rfl rfl hl.1 rfl (lv_room (Nat.le_of_ble_eq_true rfl)) dX12_otherWord_37 ⟨by rw [hRc]; exact Nat.le_of_ble_eq_true rfl, by rw [hRs]; exact Nat.le_of_ble_eq_true rfl⟩) hP hD hS hA [0, 2] rfl (fun _ => rfl) ?_
        clear hP hD hS
        clear H locs
        intro v40 _u H locs hw hP hD hS
        obtain ⟨rfl, w41, w42⟩ := hw
        have w43 : (i_6 : Int32).toInt ≤ (i_6 : Int32).toInt := (Int.le_refl _)
        have w44 : mm_b0 i_8 n37 := (mm_b0_n w39 (by decide))
        have w45 : mm_nq n37 0 i_0 := (mm_nq_n w39 (by decide))
        have w46 : mm_nq n37 0 i_1 := (mm_nq_n w39 (by decide))
        subst hAe
        rw [hQ]
        exact W.iret (v := 0) hx hb hr (fun t ht hW => ⟨⟨0, (i_4, i_5, i_6, i_7, j_0, n37, n38), rfl, ⟨h3, (mm_wk q34 (by decide)), h5, (mm_wk w39 (by decide)), h38, h39, h40, w43, w44, ⟨(mm_wk mm_k0 (by decide)), w41, w45, w46⟩⟩, by rw [ht]; exact hP, hK.warm hW, hD⟩, hS.F ht⟩) hS.2.2 dX12_otherWord_40
      · refine lv_aload_n hx hb dX12_otherWord_23 rfl (lv_at hl 0 rfl) ?_
        refine va_get (D := G) (ci := 12) (v := .int i_7) (C := RX12) (T := TX12) (N := 38) hx hb hts (mm_i inlX12) hown hK.1 hP 0 rfl rfl 10 (by decide) (mm_h hts mm_w456) (fun _ h9 => h9) rfl dX12_otherWord_24 ?_
        refine lv_iload_n hx hb dX12_otherWord_27 rfl (lv_at hl 2 rfl) ?_
        refine lv_icmp_ne (tgt := 36) hx hb dX12_otherWord_28 (by decide) (fun c47 => ?_) (fun c47 => ?_)
        · refine lv_aload_n hx hb dX12_otherWord_36 rfl (lv_at hl 0 rfl) ?_
          refine mm_fini (va_runV (As := []) (rest := []) ⟨hx, hb, hml, hown, hts⟩ (M50_X12_wordHere l G cy H.size a_0 i_2 a_1 a_2 a_3 a_4 a_5 i_3 i_4 i_5 i_6 i_7 j_0 i_8 i_9 i_10 i_11 a_6 a_7 a_8 a_9 a_10 a_11 a_12 a_13 a_14 a_15 a_16 a_17 a_18 i_12 i_13 i_14 i_15 i_16 i_17 a_19 i_18 a_20 f_0 i_19 i_20 i_21 i_22 i_23 i_24 i_25 i_26 i_27 i_28 i_29 i_30 i_31 i_32 i_33 i_34 i_35 i_36 i_37 i_38 i_39 i_40 i_41 i_42 i_43 i_44 i_45 i_46 i_47 i_48 h2 h3 (mm_wk q34 (by decide)) h5 q10 h7 h8 h9 h10 h11 h12 h13 h14 h15 h16 h17 h18 h19 h20 h21 h22 h23 h24 h25 h26 h27 h28 h29 h30 h31 h32 h33 h34 h35 h36 h37 h38 h39 h40) (cwV 0 hts (mm_gV mm_w532 mm_w533 mm_w534 mm_w5 mm_w535) rfl rfl rfl hd_X12_wordHere ⟨by rw [hRf]; exact Nat.le_of_ble_eq_true rfl, by rw [hRl]; exact Nat.le_of_ble_eq_true rfl⟩) (mm_preV hK hZ hS hA hP hD [0, 1, 2] rfl rfl 0 rfl rfl rfl) rfl rfl hl.1 rfl (lv_room (Nat.le_of_ble_eq_true rfl)) dX12_otherWord_37 ⟨by rw [hRc]; exact Nat.le_of_ble_eq_true rfl, by rw [hRs]; exact Nat.le_of_ble_eq_true rfl⟩) hP hD hS hA (fun u : Int32 × Int32 × Int32 × Int32 × Int64 × Int32 × Int32 => [(a_0, .inr (12, [.int i_2, .ref a_1, .ref a_2, .ref a_3, .ref a_4, .ref a_5, .int i_3, .int u.1, .int u.2.1, .int u.2.2.1, .int u.2.2.2.1, .long u.2.2.2.2.1, .int u.2.2.2.2.2.1, .int u.2.2.2.2.2.2, .int i_10, .int i_11, .ref a_6, .ref a_7, .ref a_8, .ref a_9, .ref a_10, .ref a_11, .ref a_12, .ref a_13, .ref a_14, .ref a_15, .ref a_16, .ref a_17, .ref a_18, .int i_12, .int i_13, .int i_14, .int i_15, .int i_16, .int i_17, .ref a_19, .int i_18, .ref a_20])), (a_5, .inl (cy 0, 600, .inl f_0)), (a_7, .inl (cy 1, 30, .inl (mm_g [i_19, i_20, i_21, i_22, i_23, i_24, i_25, i_26, i_27, i_28, i_29, i_30, i_31, i_32, i_33, i_34, i_35, i_36, i_37, i_38, i_39, i_40, i_41, i_42, i_43, i_44, i_45, i_46, i_47, i_48])))]) [0, 1, 2] [] (n := 3) (fun _ => rfl) (by decide +kernel) (by decide +kernel) rfl (fun _ => rfl) (wr := []) rfl (fun _ => rfl) (fun _ => @rfl _ ([a_0, a_5, a_7] : List Nat)) ?_
          clear hP hD hS
          clear H locs
          intro v55 u
          obtain ⟨n48, n49, n50, n51, n52, n53, n54⟩ := u
          intro H locs hw (hP : va_P G vwCl [(a_0, .inr (12, [.int i_2, .ref a_1, .ref a_2, .ref a_3, .ref a_4, .ref a_5, .int i_3, .int n48, .int n49, .int n50, .int n51, .long n52, .int n53, .int n54, .int i_10, .int i_11, .ref a_6, .ref a_7, .ref a_8, .ref a_9, .ref a_10, .ref a_11, .ref a_12, .ref a_13, .ref a_14, .ref a_15, .ref a_16, .ref a_17, .ref a_18, .int i_12, .int i_13, .int i_14, .int i_15, .int i_16, .int i_17, .ref a_19, .int i_18, .ref a_20])), (a_5, .inl (cy 0, 600, .inl f_0)), (a_7, .inl (cy 1, 30, .inl (mm_g [i_19, i_20, i_21, i_22, i_23, i_24, i_25, i_26, i_27, i_28, i_29, i_30, i_31, i_32, i_33, i_34, i_35, i_36, i_37, i_38, i_39, i_40, i_41, i_42, i_43, i_44, i_45, i_46, i_47, i_48])))] H) (hD : va_D A [(a_0, .inr (12, [.int i_2, .ref a_1, .ref a_2, .ref a_3, .ref a_4, .ref a_5, .int i_3, .int n48, .int n49, .int n50, .int n51, .long n52, .int n53, .int n54, .int i_10, .int i_11, .ref a_6, .ref a_7, .ref a_8, .ref a_9, .ref a_10, .ref a_11, .ref a_12, .ref a_13, .ref a_14, .ref a_15, .ref a_16, .ref a_17, .ref a_18, .int i_12, .int i_13, .int i_14, .int i_15, .int i_16, .int i_17, .ref a_19, .int i_18, .ref a_20])), (a_5, .inl (cy 0, 600, .inl f_0)), (a_7, .inl (cy 1, 30, .inl (mm_g [i_19, i_20, i_21, i_22, i_23, i_24, i_25, i_26, i_27, i_28, i_29, i_30, i_31, i_32, i_33, i_34, i_35, i_36, i_37, i_38, i_39, i_40, i_41, i_42, i_43, i_44, i_45, i_46, i_47, i_48])))]) hS
          obtain ⟨w56, w57, w58, w59, w60, w61, w62, w63, w64, hw⟩ := hw
          replace w60 : (n50 : Int32).toInt ≤ (n48 : Int32).toInt := w60
          replace w61 : (n48 : Int32).toInt ≤ (i_3 : Int32).toInt := w61
          replace w62 : mm_tk n49 n50 n48 := w62
          replace w63 : (i_6 : Int32).toInt ≤ (n50 : Int32).toInt := w63
          replace w64 : mm_b0 i_8 n53 := w64
          obtain ⟨w65, w66, w67⟩ := hw
          replace w66 : (v55 : Int32).toInt ≤ (i_45 : Int32).toInt := w66
          replace w67 : mm_nv n53 v55 i_5 i_7 := w67
          have w68 : mm_nq n53 v55 i_0 := (mm_nq_v w67 (mm_ne c35))
          have w69 : mm_nq n53 v55 i_1 := (mm_nq_v w67 (mm_ne c47))
          subst hAe
          rw [hQ]
          exact W.iret (v := v55) hx hb hr (fun t ht hW => ⟨⟨v55, (n48, n49, n50, n51, n52, n53, n54), rfl, ⟨w56, w57, w58, w59, w60, w61, w62, w63, w64, ⟨w65, w66, w68, w69⟩⟩, by rw [ht]; exact hP, hK.warm hW, hD⟩, hS.F ht⟩) hS.2.2 dX12_otherWord_40
        · have q70 := mm_eqI (lo := 0) (hi := 9) c47 (mm_top i_7) h1 (by decide)
          refine lv_aload_n hx hb dX12_otherWord_31 rfl (lv_at hl 0 rfl) ?_
          refine lv_iconst (v := 2) hx hb dX12_otherWord_32 (by decide) ?_
          refine mm_finv (va_runV (As := [.int 2]) (rest := []) ⟨hx, hb, hml, hown, hts⟩ (M29_X12_fails l G cy H.size a_0 i_2 a_1 a_2 a_3 a_4 a_5 i_3 i_4 i_5 i_6 i_7 j_0 i_8 i_9 i_10 i_11 a_6 a_7 a_8 a_9 a_10 a_11 a_12 a_13 a_14 a_15 a_16 a_17 a_18 i_12 i_13 i_14 i_15 i_16 i_17 a_19 i_18 a_20 h5 (mm_wk q10 (by decide))) (cwV 1 hts (mm_gV mm_w483 mm_w484 mm_w485 mm_w5 mm_w486) rfl rfl rfl hd_X12_fails ⟨by rw [hRf]; exact Nat.le_of_ble_eq_true rfl, by rw [hRl]; exact Nat.le_of_ble_eq_true rfl⟩) (mm_preV hK hZ hS hA hP hD [0] rfl rfl 0 rfl rfl rfl) rfl rfl hl.1 rfl (lv_room (Nat.le_of_ble_eq_true rfl)) dX12_otherWord_33 ⟨by rw [hRc]; exact Nat.le_of_ble_eq_true rfl, by rw [hRs]; exact Nat.le_of_ble_eq_true rfl⟩) hP hD hS hA (fun u : Int32 × Int32 => [(a_0, .inr (12, [.int i_2, .ref a_1, .ref a_2, .ref a_3, .ref a_4, .ref a_5, .int i_3, .int i_4, .int i_5, .int i_6, .int i_7, .long j_0, .int u.1, .int u.2, .int i_10, .int i_11, .ref a_6, .ref a_7, .ref a_8, .ref a_9, .ref a_10, .ref a_11, .ref a_12, .ref a_13, .ref a_14, .ref a_15, .ref a_16, .ref a_17, .ref a_18, .int i_12, .int i_13, .int i_14, .int i_15, .int i_16, .int i_17, .ref a_19, .int i_18, .ref a_20])), (a_5, .inl (cy 0, 600, .inl f_0)), (a_7, .inl (cy 1, 30, .inl (mm_g [i_19, i_20, i_21, i_22, i_23, i_24, i_25, i_26, i_27, i_28, i_29, i_30, i_31, i_32, i_33, i_34, i_35, i_36, i_37, i_38, i_39, i_40, i_41, i_42, i_43, i_44, i_45, i_46, i_47, i_48])))]) [0] [1, 2] (n := 3) (fun _ => rfl) (by decide +kernel) (by decide +kernel) rfl (fun _ => rfl) (wr := [(a_5, .inl (cy 0, 600, .inl f_0)), (a_7, .inl (cy 1, 30, .inl (mm_g [i_19, i_20, i_21, i_22, i_23, i_24, i_25, i_26, i_27, i_28, i_29, i_30, i_31, i_32, i_33, i_34, i_35, i_36, i_37, i_38, i_39, i_40, i_41, i_42, i_43, i_44, i_45, i_46, i_47, i_48])))]) rfl (fun _ => rfl) (fun _ => rfl) ?_
          clear hP hD hS
          clear H locs
          intro u
          obtain ⟨n71, n72⟩ := u
          intro H locs hw (hP : va_P G vwCl [(a_0, .inr (12, [.int i_2, .ref a_1, .ref a_2, .ref a_3, .ref a_4, .ref a_5, .int i_3, .int i_4, .int i_5, .int i_6, .int i_7, .long j_0, .int n71, .int n72, .int i_10, .int i_11, .ref a_6, .ref a_7, .ref a_8, .ref a_9, .ref a_10, .ref a_11, .ref a_12, .ref a_13, .ref a_14, .ref a_15, .ref a_16, .ref a_17, .ref a_18, .int i_12, .int i_13, .int i_14, .int i_15, .int i_16, .int i_17, .ref a_19, .int i_18, .ref a_20])), (a_5, .inl (cy 0, 600, .inl f_0)), (a_7, .inl (cy 1, 30, .inl (mm_g [i_19, i_20, i_21, i_22, i_23, i_24, i_25, i_26, i_27, i_28, i_29, i_30, i_31, i_32, i_33, i_34, i_35, i_36, i_37, i_38, i_39, i_40, i_41, i_42, i_43, i_44, i_45, i_46, i_47, i_48])))] H) (hD : va_D A [(a_0, .inr (12, [.int i_2, .ref a_1, .ref a_2, .ref a_3, .ref a_4, .ref a_5, .int i_3, .int i_4, .int i_5, .int i_6, .int i_7, .long j_0, .int n71, .int n72, .int i_10, .int i_11, .ref a_6, .ref a_7, .ref a_8, .ref a_9, .ref a_10, .ref a_11, .ref a_12, .ref a_13, .ref a_14, .ref a_15, .ref a_16, .ref a_17, .ref a_18, .int i_12, .int i_13, .int i_14, .int i_15, .int i_16, .int i_17, .ref a_19, .int i_18, .ref a_20])), (a_5, .inl (cy 0, 600, .inl f_0)), (a_7, .inl (cy 1, 30, .inl (mm_g [i_19, i_20, i_21, i_22, i_23, i_24, i_25, i_26, i_27, i_28, i_29, i_30, i_31, i_32, i_33, i_34, i_35, i_36, i_37, i_38, i_39, i_40, i_41, i_42, i_43, i_44, i_45, i_46, i_47, i_48])))]) hS
          have w73 := hw
          refine lv_aload_n hx hb dX12_otherWord_36 rfl (lv_at hl 0 rfl) ?_
          refine mm_finir (va_runV (As := []) (rest := []) ⟨hx, hb, hml, hown, hts⟩ (M52_X12_wordHere l G cy H.size a_0 i_2 a_1 a_2 a_3 a_4 a_5 i_3 i_4 i_5 i_6 i_7 j_0 n71 n72 i_10 i_11 a_6 a_7 a_8 a_9 a_10 a_11 a_12 a_13 a_14 a_15 a_16 a_17 a_18 i_12 i_13 i_14 i_15 i_16 i_17 a_19 i_18 a_20 i_19 i_20 i_21 i_22 i_23 i_24 i_25 i_26 i_27 i_28 i_29 i_30 i_31 i_32 i_33 i_34 i_35 i_36 i_37 i_38 i_39 i_40 i_41 i_42 i_43 i_44 i_45 i_46 i_47 i_48 h3 (mm_wk q34 (by decide)) h5 w73 h8 h9 h10 h11 h12 h13 h14 h15 h16 h17 h18 h19 h20 h21 h22 h23 h24 h25 h26 h27 h28 h29 h30 h31 h32 h33 h34 h35 h36 h37 h38 h39 h40) (cwV 0 hts (mm_gV mm_w532 mm_w533 mm_w534 mm_w5 mm_w535) rfl rfl rfl hd_X12_wordHere ⟨by rw [hRf]; exact Nat.le_of_ble_eq_true rfl, by rw [hRl]; exact Nat.le_of_ble_eq_true rfl⟩) (mm_preV hK hZ hS hA hP hD [0, 2] rfl rfl 0 rfl rfl rfl) rfl rfl hl.1 rfl (lv_room (Nat.le_of_ble_eq_true rfl)) dX12_otherWord_37 ⟨by rw [hRc]; exact Nat.le_of_ble_eq_true rfl, by rw [hRs]; exact Nat.le_of_ble_eq_true rfl⟩) hP hD hS hA [0, 2] rfl (fun _ => rfl) ?_
          clear hP hD hS
          clear H locs
          intro v74 _u H locs hw hP hD hS
          obtain ⟨rfl, w75, w76⟩ := hw
          have w77 : (i_6 : Int32).toInt ≤ (i_6 : Int32).toInt := (Int.le_refl _)
          have w78 : mm_b0 i_8 n71 := (mm_b0_n w73 (by decide))
          have w79 : mm_nq n71 0 i_0 := (mm_nq_n w73 (by decide))
          have w80 : mm_nq n71 0 i_1 := (mm_nq_n w73 (by decide))
          subst hAe
          rw [hQ]
          exact W.iret (v := 0) hx hb hr (fun t ht hW => ⟨⟨0, (i_4, i_5, i_6, i_7, j_0, n71, n72), rfl, ⟨h3, (mm_wk q34 (by decide)), h5, (mm_wk w73 (by decide)), h38, h39, h40, w77, w78, ⟨(mm_wk mm_k0 (by decide)), w75, w79, w80⟩⟩, by rw [ht]; exact hP, hK.warm hW, hD⟩, hS.F ht⟩) hS.2.2 dX12_otherWord_40

