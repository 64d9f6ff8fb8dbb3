theorem dJ7_fill_53178_0 : decode cJ7_fill_53178 0 = .ok (.iconst 0, 1) := by decide +kernel
theorem dJ7_fill_53178_1 : decode cJ7_fill_53178 1 = .ok (.istore_n 2, 1) := by decide +kernel
theorem dJ7_fill_53178_2 : decode cJ7_fill_53178 2 = .ok (.aload_n 0, 1) := by decide +kernel
theorem dJ7_fill_53178_3 : decode cJ7_fill_53178 3 = .ok (.arraylength, 1) := by decide +kernel
theorem dJ7_fill_53178_4 : decode cJ7_fill_53178 4 = .ok (.istore_n 3, 1) := by decide +kernel
theorem dJ7_fill_53178_5 : decode cJ7_fill_53178 5 = .ok (.iload_n 2, 1) := by decide +kernel
theorem dJ7_fill_53178_6 : decode cJ7_fill_53178 6 = .ok (.iload_n 3, 1) := by decide +kernel
theorem dJ7_fill_53178_7 : decode cJ7_fill_53178 7 = .ok (.if_icmp .ge 13, 3) := by decide +kernel
theorem dJ7_fill_53178_10 : decode cJ7_fill_53178 10 = .ok (.aload_n 0, 1) := by decide +kernel
theorem dJ7_fill_53178_11 : decode cJ7_fill_53178 11 = .ok (.iload_n 2, 1) := by decide +kernel
theorem dJ7_fill_53178_12 : decode cJ7_fill_53178 12 = .ok (.iload_n 1, 1) := by decide +kernel
theorem dJ7_fill_53178_13 : decode cJ7_fill_53178 13 = .ok (.iastore, 1) := by decide +kernel
theorem dJ7_fill_53178_14 : decode cJ7_fill_53178 14 = .ok (.iinc 2 1, 3) := by decide +kernel
theorem dJ7_fill_53178_17 : decode cJ7_fill_53178 17 = .ok (.goto (-12), 3) := by decide +kernel
theorem dJ7_fill_53178_20 : decode cJ7_fill_53178 20 = .ok (.return_, 1) := by decide +kernel
theorem dX0_wipe_0 : decode cX0_wipe 0 = .ok (.aload_n 0, 1) := by decide +kernel
theorem dX0_wipe_1 : decode cX0_wipe 1 = .ok (.iconst 0, 1) := by decide +kernel
theorem dX0_wipe_2 : decode cX0_wipe 2 = .ok (.putfield 42, 3) := by decide +kernel
theorem dX0_wipe_5 : decode cX0_wipe 5 = .ok (.aload_n 0, 1) := by decide +kernel
theorem dX0_wipe_6 : decode cX0_wipe 6 = .ok (.iconst 0, 1) := by decide +kernel
theorem dX0_wipe_7 : decode cX0_wipe 7 = .ok (.putfield 46, 3) := by decide +kernel
theorem dX0_wipe_10 : decode cX0_wipe 10 = .ok (.aload_n 0, 1) := by decide +kernel
theorem dX0_wipe_11 : decode cX0_wipe 11 = .ok (.iconst 0, 1) := by decide +kernel
theorem dX0_wipe_12 : decode cX0_wipe 12 = .ok (.putfield 49, 3) := by decide +kernel
theorem dX0_wipe_15 : decode cX0_wipe 15 = .ok (.aload_n 0, 1) := by decide +kernel
theorem dX0_wipe_16 : decode cX0_wipe 16 = .ok (.iconst 0, 1) := by decide +kernel
theorem dX0_wipe_17 : decode cX0_wipe 17 = .ok (.putfield 52, 3) := by decide +kernel
theorem dX0_wipe_20 : decode cX0_wipe 20 = .ok (.aload_n 0, 1) := by decide +kernel
theorem dX0_wipe_21 : decode cX0_wipe 21 = .ok (.iconst 0, 1) := by decide +kernel
theorem dX0_wipe_22 : decode cX0_wipe 22 = .ok (.putfield 55, 3) := by decide +kernel
theorem dX0_wipe_25 : decode cX0_wipe 25 = .ok (.aload_n 0, 1) := by decide +kernel
theorem dX0_wipe_26 : decode cX0_wipe 26 = .ok (.iconst 0, 1) := by decide +kernel
theorem dX0_wipe_27 : decode cX0_wipe 27 = .ok (.putfield 58, 3) := by decide +kernel
theorem dX0_wipe_30 : decode cX0_wipe 30 = .ok (.aload_n 0, 1) := by decide +kernel
theorem dX0_wipe_31 : decode cX0_wipe 31 = .ok (.iconst 0, 1) := by decide +kernel
theorem dX0_wipe_32 : decode cX0_wipe 32 = .ok (.putfield 61, 3) := by decide +kernel
theorem dX0_wipe_35 : decode cX0_wipe 35 = .ok (.aload_n 0, 1) := by decide +kernel
theorem dX0_wipe_36 : decode cX0_wipe 36 = .ok (.iconst 0, 1) := by decide +kernel
theorem dX0_wipe_37 : decode cX0_wipe 37 = .ok (.putfield 64, 3) := by decide +kernel
theorem dX0_wipe_40 : decode cX0_wipe 40 = .ok (.aload_n 0, 1) := by decide +kernel
theorem dX0_wipe_41 : decode cX0_wipe 41 = .ok (.getfield 18, 3) := by decide +kernel
theorem dX0_wipe_44 : decode cX0_wipe 44 = .ok (.iconst 0, 1) := by decide +kernel
theorem dX0_wipe_45 : decode cX0_wipe 45 = .ok (.invokestatic 67, 3) := by decide +kernel
theorem dX0_wipe_48 : decode cX0_wipe 48 = .ok (.aload_n 0, 1) := by decide +kernel
theorem dX0_wipe_49 : decode cX0_wipe 49 = .ok (.getfield 24, 3) := by decide +kernel
theorem dX0_wipe_52 : decode cX0_wipe 52 = .ok (.iconst 0, 1) := by decide +kernel
theorem dX0_wipe_53 : decode cX0_wipe 53 = .ok (.invokestatic 67, 3) := by decide +kernel
theorem dX0_wipe_56 : decode cX0_wipe 56 = .ok (.iconst 0, 1) := by decide +kernel
theorem dX0_wipe_57 : decode cX0_wipe 57 = .ok (.istore_n 1, 1) := by decide +kernel
theorem dX0_wipe_58 : decode cX0_wipe 58 = .ok (.iload_n 1, 1) := by decide +kernel
theorem dX0_wipe_59 : decode cX0_wipe 59 = .ok (.aload_n 0, 1) := by decide +kernel
theorem dX0_wipe_60 : decode cX0_wipe 60 = .ok (.getfield 30, 3) := by decide +kernel
theorem dX0_wipe_63 : decode cX0_wipe 63 = .ok (.arraylength, 1) := by decide +kernel
theorem dX0_wipe_64 : decode cX0_wipe 64 = .ok (.if_icmp .ge 19, 3) := by decide +kernel
theorem dX0_wipe_67 : decode cX0_wipe 67 = .ok (.aload_n 0, 1) := by decide +kernel
theorem dX0_wipe_68 : decode cX0_wipe 68 = .ok (.getfield 30, 3) := by decide +kernel
theorem dX0_wipe_71 : decode cX0_wipe 71 = .ok (.iload_n 1, 1) := by decide +kernel
theorem dX0_wipe_72 : decode cX0_wipe 72 = .ok (.iload_n 1, 1) := by decide +kernel
theorem dX0_wipe_73 : decode cX0_wipe 73 = .ok (.bipush 10, 2) := by decide +kernel
theorem dX0_wipe_75 : decode cX0_wipe 75 = .ok (.irem, 1) := by decide +kernel
theorem dX0_wipe_76 : decode cX0_wipe 76 = .ok (.iastore, 1) := by decide +kernel
theorem dX0_wipe_77 : decode cX0_wipe 77 = .ok (.iinc 1 1, 3) := by decide +kernel
theorem dX0_wipe_80 : decode cX0_wipe 80 = .ok (.goto (-22), 3) := by decide +kernel
theorem dX0_wipe_83 : decode cX0_wipe 83 = .ok (.return_, 1) := by decide +kernel
theorem dX11_end_0 : decode cX11_end 0 = .ok (.iload_n 1, 1) := by decide +kernel
theorem dX11_end_1 : decode cX11_end 1 = .ok (.ifCond .lt 14, 3) := by decide +kernel
theorem dX11_end_4 : decode cX11_end 4 = .ok (.iload_n 1, 1) := by decide +kernel
theorem dX11_end_5 : decode cX11_end 5 = .ok (.aload_n 0, 1) := by decide +kernel
theorem dX11_end_6 : decode cX11_end 6 = .ok (.getfield 10, 3) := by decide +kernel
theorem dX11_end_9 : decode cX11_end 9 = .ok (.getfield 89, 3) := by decide +kernel
theorem dX11_end_12 : decode cX11_end 12 = .ok (.if_icmp .le 5, 3) := by decide +kernel
theorem dX11_end_15 : decode cX11_end 15 = .ok (.iconst (-1), 1) := by decide +kernel
theorem dX11_end_16 : decode cX11_end 16 = .ok (.ireturn, 1) := by decide +kernel
theorem dX11_end_17 : decode cX11_end 17 = .ok (.aload_n 0, 1) := by decide +kernel
theorem dX11_end_18 : decode cX11_end 18 = .ok (.getfield 10, 3) := by decide +kernel
theorem dX11_end_21 : decode cX11_end 21 = .ok (.iload_n 1, 1) := by decide +kernel
theorem dX11_end_22 : decode cX11_end 22 = .ok (.putfield 89, 3) := by decide +kernel
theorem dX11_end_25 : decode cX11_end 25 = .ok (.iload_n 1, 1) := by decide +kernel
theorem dX11_end_26 : decode cX11_end 26 = .ok (.ireturn, 1) := by decide +kernel
theorem dX11_feed_0 : decode cX11_feed 0 = .ok (.aload_n 0, 1) := by decide +kernel
theorem dX11_feed_1 : decode cX11_feed 1 = .ok (.getfield 10, 3) := by decide +kernel
theorem dX11_feed_4 : decode cX11_feed 4 = .ok (.getfield 89, 3) := by decide +kernel
theorem dX11_feed_7 : decode cX11_feed 7 = .ok (.bipush 20, 2) := by decide +kernel
theorem dX11_feed_9 : decode cX11_feed 9 = .ok (.iadd, 1) := by decide +kernel
theorem dX11_feed_10 : decode cX11_feed 10 = .ok (.sipush 600, 3) := by decide +kernel
theorem dX11_feed_13 : decode cX11_feed 13 = .ok (.if_icmp .le 5, 3) := by decide +kernel
theorem dX11_feed_18 : decode cX11_feed 18 = .ok (.aload_n 0, 1) := by decide +kernel
theorem dX11_feed_19 : decode cX11_feed 19 = .ok (.getfield 10, 3) := by decide +kernel
theorem dX11_feed_22 : decode cX11_feed 22 = .ok (.iload_n 1, 1) := by decide +kernel
theorem dX11_feed_23 : decode cX11_feed 23 = .ok (.invokevirtual 93, 3) := by decide +kernel
theorem dX11_feed_26 : decode cX11_feed 26 = .ok (.aload_n 0, 1) := by decide +kernel
theorem dX11_feed_27 : decode cX11_feed 27 = .ok (.getfield 10, 3) := by decide +kernel
theorem dX11_feed_30 : decode cX11_feed 30 = .ok (.iload_n 2, 1) := by decide +kernel
theorem dX11_feed_31 : decode cX11_feed 31 = .ok (.invokevirtual 93, 3) := by decide +kernel
theorem dX11_feed_34 : decode cX11_feed 34 = .ok (.aload_n 0, 1) := by decide +kernel
theorem dX11_feed_35 : decode cX11_feed 35 = .ok (.getfield 10, 3) := by decide +kernel
theorem dX11_feed_38 : decode cX11_feed 38 = .ok (.iload_n 3, 1) := by decide +kernel
theorem dX11_feed_39 : decode cX11_feed 39 = .ok (.invokevirtual 93, 3) := by decide +kernel
theorem dX11_feed_42 : decode cX11_feed 42 = .ok (.aload_n 0, 1) := by decide +kernel
theorem dX11_feed_43 : decode cX11_feed 43 = .ok (.getfield 10, 3) := by decide +kernel
theorem dX11_feed_46 : decode cX11_feed 46 = .ok (.iload 4, 2) := by decide +kernel
theorem dX11_feed_48 : decode cX11_feed 48 = .ok (.invokevirtual 93, 3) := by decide +kernel
theorem dX11_feed_51 : decode cX11_feed 51 = .ok (.aload_n 0, 1) := by decide +kernel
theorem dX11_feed_52 : decode cX11_feed 52 = .ok (.getfield 10, 3) := by decide +kernel
theorem dX11_feed_55 : decode cX11_feed 55 = .ok (.iload 5, 2) := by decide +kernel
theorem dX11_feed_57 : decode cX11_feed 57 = .ok (.invokevirtual 93, 3) := by decide +kernel
theorem dX11_feed_60 : decode cX11_feed 60 = .ok (.aload_n 0, 1) := by decide +kernel
theorem dX11_feed_61 : decode cX11_feed 61 = .ok (.getfield 10, 3) := by decide +kernel
theorem dX11_feed_64 : decode cX11_feed 64 = .ok (.getfield 89, 3) := by decide +kernel
theorem dX11_feed_67 : decode cX11_feed 67 = .ok (.ireturn, 1) := by decide +kernel
theorem dX12_end_0 : decode cX12_end 0 = .ok (.aload_n 0, 1) := by decide +kernel
theorem dX12_end_1 : decode cX12_end 1 = .ok (.iconst 0, 1) := by decide +kernel
theorem dX12_end_2 : decode cX12_end 2 = .ok (.putfield 77, 3) := by decide +kernel
theorem dX12_end_5 : decode cX12_end 5 = .ok (.iload_n 1, 1) := by decide +kernel
theorem dX12_end_6 : decode cX12_end 6 = .ok (.i2l, 1) := by decide +kernel
theorem dX12_end_7 : decode cX12_end 7 = .ok (.lconst 0, 1) := by decide +kernel
theorem dX12_end_8 : decode cX12_end 8 = .ok (.aload_n 0, 1) := by decide +kernel
theorem dX12_end_9 : decode cX12_end 9 = .ok (.getfield 94, 3) := by decide +kernel
theorem dX12_end_12 : decode cX12_end 12 = .ok (.i2l, 1) := by decide +kernel
theorem dX12_end_13 : decode cX12_end 13 = .ok (.invokestatic 82, 3) := by decide +kernel
theorem dX12_end_16 : decode cX12_end 16 = .ok (.ifCond .ne 5, 3) := by decide +kernel
theorem dX12_end_19 : decode cX12_end 19 = .ok (.iconst (-1), 1) := by decide +kernel
theorem dX12_end_20 : decode cX12_end 20 = .ok (.ireturn, 1) := by decide +kernel
theorem dX12_end_21 : decode cX12_end 21 = .ok (.aload_n 0, 1) := by decide +kernel
theorem dX12_end_22 : decode cX12_end 22 = .ok (.iload_n 1, 1) := by decide +kernel
theorem dX12_end_23 : decode cX12_end 23 = .ok (.putfield 94, 3) := by decide +kernel
theorem dX12_end_26 : decode cX12_end 26 = .ok (.iload_n 1, 1) := by decide +kernel
theorem dX12_end_27 : decode cX12_end 27 = .ok (.ireturn, 1) := by decide +kernel
theorem dX12_feed_0 : decode cX12_feed 0 = .ok (.aload_n 0, 1) := by decide +kernel
theorem dX12_feed_1 : decode cX12_feed 1 = .ok (.iconst 0, 1) := by decide +kernel
theorem dX12_feed_2 : decode cX12_feed 2 = .ok (.putfield 77, 3) := by decide +kernel
theorem dX12_feed_5 : decode cX12_feed 5 = .ok (.aload_n 0, 1) := by decide +kernel
theorem dX12_feed_6 : decode cX12_feed 6 = .ok (.getfield 94, 3) := by decide +kernel
theorem dX12_feed_9 : decode cX12_feed 9 = .ok (.bipush 20, 2) := by decide +kernel
theorem dX12_feed_11 : decode cX12_feed 11 = .ok (.iadd, 1) := by decide +kernel
theorem dX12_feed_12 : decode cX12_feed 12 = .ok (.sipush 600, 3) := by decide +kernel
theorem dX12_feed_15 : decode cX12_feed 15 = .ok (.if_icmp .le 5, 3) := by decide +kernel
theorem dX12_feed_20 : decode cX12_feed 20 = .ok (.aload_n 0, 1) := by decide +kernel
theorem dX12_feed_21 : decode cX12_feed 21 = .ok (.iload_n 1, 1) := by decide +kernel
theorem dX12_feed_22 : decode cX12_feed 22 = .ok (.invokevirtual 97, 3) := by decide +kernel
theorem dX12_feed_25 : decode cX12_feed 25 = .ok (.aload_n 0, 1) := by decide +kernel
theorem dX12_feed_26 : decode cX12_feed 26 = .ok (.iload_n 2, 1) := by decide +kernel
theorem dX12_feed_27 : decode cX12_feed 27 = .ok (.invokevirtual 97, 3) := by decide +kernel
theorem dX12_feed_30 : decode cX12_feed 30 = .ok (.aload_n 0, 1) := by decide +kernel
theorem dX12_feed_31 : decode cX12_feed 31 = .ok (.iload_n 3, 1) := by decide +kernel
theorem dX12_feed_32 : decode cX12_feed 32 = .ok (.invokevirtual 97, 3) := by decide +kernel
theorem dX12_feed_35 : decode cX12_feed 35 = .ok (.aload_n 0, 1) := by decide +kernel
theorem dX12_feed_36 : decode cX12_feed 36 = .ok (.iload 4, 2) := by decide +kernel
theorem dX12_feed_38 : decode cX12_feed 38 = .ok (.invokevirtual 97, 3) := by decide +kernel
theorem dX12_feed_41 : decode cX12_feed 41 = .ok (.aload_n 0, 1) := by decide +kernel
theorem dX12_feed_42 : decode cX12_feed 42 = .ok (.iload 5, 2) := by decide +kernel
theorem dX12_feed_44 : decode cX12_feed 44 = .ok (.invokevirtual 97, 3) := by decide +kernel
theorem dX12_feed_47 : decode cX12_feed 47 = .ok (.aload_n 0, 1) := by decide +kernel
theorem dX12_feed_48 : decode cX12_feed 48 = .ok (.getfield 94, 3) := by decide +kernel
theorem dX12_feed_51 : decode cX12_feed 51 = .ok (.ireturn, 1) := by decide +kernel
theorem dX12_four_0 : decode cX12_four 0 = .ok (.bipush 24, 2) := by decide +kernel
theorem dX12_four_2 : decode cX12_four 2 = .ok (.istore_n 2, 1) := by decide +kernel
theorem dX12_four_3 : decode cX12_four 3 = .ok (.iload_n 2, 1) := by decide +kernel
theorem dX12_four_4 : decode cX12_four 4 = .ok (.ifCond .lt 32, 3) := by decide +kernel
theorem dX12_four_7 : decode cX12_four 7 = .ok (.aload_n 0, 1) := by decide +kernel
theorem dX12_four_8 : decode cX12_four 8 = .ok (.getfield 23, 3) := by decide +kernel
theorem dX12_four_11 : decode cX12_four 11 = .ok (.aload_n 0, 1) := by decide +kernel
theorem dX12_four_12 : decode cX12_four 12 = .ok (.getfield 94, 3) := by decide +kernel
theorem dX12_four_15 : decode cX12_four 15 = .ok (.iload_n 1, 1) := by decide +kernel
theorem dX12_four_16 : decode cX12_four 16 = .ok (.iload_n 2, 1) := by decide +kernel
theorem dX12_four_17 : decode cX12_four 17 = .ok (.ishr, 1) := by decide +kernel
theorem dX12_four_18 : decode cX12_four 18 = .ok (.i2b, 1) := by decide +kernel
theorem dX12_four_19 : decode cX12_four 19 = .ok (.bastore, 1) := by decide +kernel
theorem dX12_four_20 : decode cX12_four 20 = .ok (.aload_n 0, 1) := by decide +kernel
theorem dX12_four_21 : decode cX12_four 21 = .ok (.dup, 1) := by decide +kernel
theorem dX12_four_22 : decode cX12_four 22 = .ok (.getfield 94, 3) := by decide +kernel
theorem dX12_four_25 : decode cX12_four 25 = .ok (.iconst 1, 1) := by decide +kernel
theorem dX12_four_26 : decode cX12_four 26 = .ok (.iadd, 1) := by decide +kernel
theorem dX12_four_27 : decode cX12_four 27 = .ok (.putfield 94, 3) := by decide +kernel
theorem dX12_four_30 : decode cX12_four 30 = .ok (.iinc 2 (-8), 3) := by decide +kernel
theorem dX12_four_33 : decode cX12_four 33 = .ok (.goto (-30), 3) := by decide +kernel
theorem dX12_four_36 : decode cX12_four 36 = .ok (.return_, 1) := by decide +kernel
theorem dX12_in_0 : decode cX12_in 0 = .ok (.lload_n 0, 1) := by decide +kernel
theorem dX12_in_1 : decode cX12_in 1 = .ok (.lload_n 2, 1) := by decide +kernel
theorem dX12_in_2 : decode cX12_in 2 = .ok (.lcmp, 1) := by decide +kernel
theorem dX12_in_3 : decode cX12_in 3 = .ok (.ifCond .lt 14, 3) := by decide +kernel
theorem dX12_in_6 : decode cX12_in 6 = .ok (.lload_n 0, 1) := by decide +kernel
theorem dX12_in_7 : decode cX12_in 7 = .ok (.lload 4, 2) := by decide +kernel
theorem dX12_in_9 : decode cX12_in 9 = .ok (.lcmp, 1) := by decide +kernel
theorem dX12_in_10 : decode cX12_in 10 = .ok (.ifCond .gt 7, 3) := by decide +kernel
theorem dX12_in_13 : decode cX12_in 13 = .ok (.iconst 1, 1) := by decide +kernel
theorem dX12_in_14 : decode cX12_in 14 = .ok (.goto 4, 3) := by decide +kernel
theorem dX12_in_17 : decode cX12_in 17 = .ok (.iconst 0, 1) := by decide +kernel
theorem dX12_in_18 : decode cX12_in 18 = .ok (.ireturn, 1) := by decide +kernel
theorem dX7_nextToken_0 : decode cX7_nextToken 0 = .ok (.aload_n 0, 1) := by decide +kernel
theorem dX7_nextToken_1 : decode cX7_nextToken 1 = .ok (.getfield 32, 3) := by decide +kernel
theorem dX7_nextToken_4 : decode cX7_nextToken 4 = .ok (.istore_n 1, 1) := by decide +kernel
theorem dX7_nextToken_5 : decode cX7_nextToken 5 = .ok (.iload_n 1, 1) := by decide +kernel
theorem dX7_nextToken_6 : decode cX7_nextToken 6 = .ok (.aload_n 0, 1) := by decide +kernel
theorem dX7_nextToken_7 : decode cX7_nextToken 7 = .ok (.getfield 22, 3) := by decide +kernel
theorem dX7_nextToken_10 : decode cX7_nextToken 10 = .ok (.getfield 178, 3) := by decide +kernel
theorem dX7_nextToken_13 : decode cX7_nextToken 13 = .ok (.if_icmp .ge 18, 3) := by decide +kernel
theorem dX7_nextToken_31 : decode cX7_nextToken 31 = .ok (.aload_n 0, 1) := by decide +kernel
theorem dX7_nextToken_32 : decode cX7_nextToken 32 = .ok (.aload_n 0, 1) := by decide +kernel
theorem dX7_nextToken_33 : decode cX7_nextToken 33 = .ok (.iload_n 1, 1) := by decide +kernel
theorem dX7_nextToken_34 : decode cX7_nextToken 34 = .ok (.invokevirtual 190, 3) := by decide +kernel
theorem dX7_nextToken_37 : decode cX7_nextToken 37 = .ok (.putfield 38, 3) := by decide +kernel
theorem dX7_nextToken_40 : decode cX7_nextToken 40 = .ok (.iload_n 1, 1) := by decide +kernel
theorem dX7_nextToken_41 : decode cX7_nextToken 41 = .ok (.aload_n 0, 1) := by decide +kernel
theorem dX7_nextToken_42 : decode cX7_nextToken 42 = .ok (.getfield 22, 3) := by decide +kernel
theorem dX7_nextToken_45 : decode cX7_nextToken 45 = .ok (.getfield 178, 3) := by decide +kernel
theorem dX7_nextToken_48 : decode cX7_nextToken 48 = .ok (.if_icmp .ge 9, 3) := by decide +kernel
theorem dX7_nextToken_57 : decode cX7_nextToken 57 = .ok (.iload_n 1, 1) := by decide +kernel
theorem dX7_nextToken_58 : decode cX7_nextToken 58 = .ok (.istore_n 2, 1) := by decide +kernel
theorem dX7_nextToken_59 : decode cX7_nextToken 59 = .ok (.aload_n 0, 1) := by decide +kernel
theorem dX7_nextToken_60 : decode cX7_nextToken 60 = .ok (.getfield 38, 3) := by decide +kernel
theorem dX7_nextToken_63 : decode cX7_nextToken 63 = .ok (.iconst 2, 1) := by decide +kernel
theorem dX7_nextToken_64 : decode cX7_nextToken 64 = .ok (.if_icmp .eq 11, 3) := by decide +kernel
theorem dX7_nextToken_67 : decode cX7_nextToken 67 = .ok (.aload_n 0, 1) := by decide +kernel
theorem dX7_nextToken_68 : decode cX7_nextToken 68 = .ok (.getfield 38, 3) := by decide +kernel
theorem dX7_nextToken_71 : decode cX7_nextToken 71 = .ok (.iconst 3, 1) := by decide +kernel
theorem dX7_nextToken_72 : decode cX7_nextToken 72 = .ok (.if_icmp .ne 7, 3) := by decide +kernel
theorem dX7_nextToken_79 : decode cX7_nextToken 79 = .ok (.iconst 0, 1) := by decide +kernel
theorem dX7_nextToken_80 : decode cX7_nextToken 80 = .ok (.istore_n 3, 1) := by decide +kernel
theorem dX7_nextToken_81 : decode cX7_nextToken 81 = .ok (.iload_n 3, 1) := by decide +kernel
theorem dX7_nextToken_82 : decode cX7_nextToken 82 = .ok (.ifCond .eq 32, 3) := by decide +kernel
theorem dX7_nextToken_114 : decode cX7_nextToken 114 = .ok (.aload_n 0, 1) := by decide +kernel
theorem dX7_nextToken_115 : decode cX7_nextToken 115 = .ok (.iload_n 1, 1) := by decide +kernel
theorem dX7_nextToken_116 : decode cX7_nextToken 116 = .ok (.putfield 170, 3) := by decide +kernel
theorem dX7_nextToken_119 : decode cX7_nextToken 119 = .ok (.aload_n 0, 1) := by decide +kernel
theorem dX7_nextToken_120 : decode cX7_nextToken 120 = .ok (.iload_n 2, 1) := by decide +kernel
theorem dX7_nextToken_121 : decode cX7_nextToken 121 = .ok (.putfield 32, 3) := by decide +kernel
theorem dX7_nextToken_124 : decode cX7_nextToken 124 = .ok (.aload_n 0, 1) := by decide +kernel
theorem dX7_nextToken_125 : decode cX7_nextToken 125 = .ok (.aload_n 0, 1) := by decide +kernel
theorem dX7_nextToken_126 : decode cX7_nextToken 126 = .ok (.getfield 38, 3) := by decide +kernel
theorem dX7_nextToken_129 : decode cX7_nextToken 129 = .ok (.iconst 3, 1) := by decide +kernel
theorem dX7_nextToken_130 : decode cX7_nextToken 130 = .ok (.if_icmp .ne 10, 3) := by decide +kernel
theorem dX7_nextToken_140 : decode cX7_nextToken 140 = .ok (.iconst 0, 1) := by decide +kernel
theorem dX7_nextToken_141 : decode cX7_nextToken 141 = .ok (.putfield 167, 3) := by decide +kernel
theorem dX7_nextToken_144 : decode cX7_nextToken 144 = .ok (.return_, 1) := by decide +kernel
theorem dX7_partAt_0 : decode cX7_partAt 0 = .ok (.iload_n 1, 1) := by decide +kernel
theorem dX7_partAt_1 : decode cX7_partAt 1 = .ok (.ifCond .lt 14, 3) := by decide +kernel
theorem dX7_partAt_4 : decode cX7_partAt 4 = .ok (.iload_n 1, 1) := by decide +kernel
theorem dX7_partAt_5 : decode cX7_partAt 5 = .ok (.aload_n 0, 1) := by decide +kernel
theorem dX7_partAt_6 : decode cX7_partAt 6 = .ok (.getfield 22, 3) := by decide +kernel
theorem dX7_partAt_9 : decode cX7_partAt 9 = .ok (.getfield 178, 3) := by decide +kernel
theorem dX7_partAt_12 : decode cX7_partAt 12 = .ok (.if_icmp .lt 5, 3) := by decide +kernel
theorem dX7_partAt_15 : decode cX7_partAt 15 = .ok (.iconst 0, 1) := by decide +kernel
theorem dX7_partAt_16 : decode cX7_partAt 16 = .ok (.ireturn, 1) := by decide +kernel
theorem dX9_add_0 : decode cX9_add 0 = .ok (.bipush 24, 2) := by decide +kernel
theorem dX9_add_2 : decode cX9_add 2 = .ok (.istore_n 2, 1) := by decide +kernel
theorem dX9_add_3 : decode cX9_add 3 = .ok (.iload_n 2, 1) := by decide +kernel
theorem dX9_add_4 : decode cX9_add 4 = .ok (.ifCond .lt 42, 3) := by decide +kernel
theorem dX9_add_7 : decode cX9_add 7 = .ok (.aload_n 0, 1) := by decide +kernel
theorem dX9_add_8 : decode cX9_add 8 = .ok (.getfield 15, 3) := by decide +kernel
theorem dX9_add_11 : decode cX9_add 11 = .ok (.sipush 600, 3) := by decide +kernel
theorem dX9_add_14 : decode cX9_add 14 = .ok (.if_icmp .ge 32, 3) := by decide +kernel
theorem dX9_add_17 : decode cX9_add 17 = .ok (.aload_n 0, 1) := by decide +kernel
theorem dX9_add_18 : decode cX9_add 18 = .ok (.getfield 9, 3) := by decide +kernel
theorem dX9_add_21 : decode cX9_add 21 = .ok (.aload_n 0, 1) := by decide +kernel
theorem dX9_add_22 : decode cX9_add 22 = .ok (.getfield 15, 3) := by decide +kernel
theorem dX9_add_25 : decode cX9_add 25 = .ok (.iload_n 1, 1) := by decide +kernel
theorem dX9_add_26 : decode cX9_add 26 = .ok (.iload_n 2, 1) := by decide +kernel
theorem dX9_add_27 : decode cX9_add 27 = .ok (.ishr, 1) := by decide +kernel
theorem dX9_add_28 : decode cX9_add 28 = .ok (.i2b, 1) := by decide +kernel
theorem dX9_add_29 : decode cX9_add 29 = .ok (.bastore, 1) := by decide +kernel
theorem dX9_add_30 : decode cX9_add 30 = .ok (.aload_n 0, 1) := by decide +kernel
theorem dX9_add_31 : decode cX9_add 31 = .ok (.dup, 1) := by decide +kernel
theorem dX9_add_32 : decode cX9_add 32 = .ok (.getfield 15, 3) := by decide +kernel
theorem dX9_add_35 : decode cX9_add 35 = .ok (.iconst 1, 1) := by decide +kernel
theorem dX9_add_36 : decode cX9_add 36 = .ok (.iadd, 1) := by decide +kernel
theorem dX9_add_37 : decode cX9_add 37 = .ok (.putfield 15, 3) := by decide +kernel
theorem dX9_add_40 : decode cX9_add 40 = .ok (.iinc 2 (-8), 3) := by decide +kernel
theorem dX9_add_43 : decode cX9_add 43 = .ok (.goto (-40), 3) := by decide +kernel
theorem dX9_add_46 : decode cX9_add 46 = .ok (.return_, 1) := by decide +kernel
theorem mm_k10 : mm_rg 10 10 10 := ⟨by decide, by decide⟩
theorem mm_k11 : mm_rg 11 11 11 := ⟨by decide, by decide⟩
theorem mm_k12 : mm_rg 12 12 12 := ⟨by decide, by decide⟩
theorem mm_k13 : mm_rg 13 13 13 := ⟨by decide, by decide⟩
theorem mm_k14 : mm_rg 14 14 14 := ⟨by decide, by decide⟩
theorem mm_k15 : mm_rg 15 15 15 := ⟨by decide, by decide⟩
theorem mm_k16 : mm_rg 16 16 16 := ⟨by decide, by decide⟩
theorem mm_k17 : mm_rg 17 17 17 := ⟨by decide, by decide⟩
theorem mm_k18 : mm_rg 18 18 18 := ⟨by decide, by decide⟩
theorem mm_k19 : mm_rg 19 19 19 := ⟨by decide, by decide⟩
theorem mm_k20 : mm_rg 20 20 20 := ⟨by decide, by decide⟩
theorem mm_k24 : mm_rg 24 24 24 := ⟨by decide, by decide⟩
theorem mm_k30 : mm_rg 30 30 30 := ⟨by decide, by decide⟩
theorem mm_k5 : mm_rg 5 5 5 := ⟨by decide, by decide⟩
theorem mm_k6 : mm_rg 6 6 6 := ⟨by decide, by decide⟩
theorem mm_k600 : mm_rg 600 600 600 := ⟨by decide, by decide⟩
theorem mm_k7 : mm_rg 7 7 7 := ⟨by decide, by decide⟩
theorem mm_k8 : mm_rg 8 8 8 := ⟨by decide, by decide⟩
theorem mm_k9 : mm_rg 9 9 9 := ⟨by decide, by decide⟩
theorem mm_km8 : mm_rg (-8) (-8) (-8) := ⟨by decide, by decide⟩
theorem mm_kl0 : mm_rl 0 0 0 := ⟨by decide, by decide⟩
theorem hd_X12_four : yX12_four.cls = RX12 ∧ yX12_four.cls ≠ "java/lang/invoke/MethodHandle" ∧ yX12_four.cls ≠ "java/lang/invoke/VarHandle" ∧ (parseMethodDescriptor yX12_four.desc).map (fun d => d.parameters.length) = some 1 := by decide +kernel
theorem hd_X7_partAt : yX7_partAt.cls = RX7 ∧ yX7_partAt.cls ≠ "java/lang/invoke/MethodHandle" ∧ yX7_partAt.cls ≠ "java/lang/invoke/VarHandle" ∧ (parseMethodDescriptor yX7_partAt.desc).map (fun d => d.parameters.length) = some 1 := by decide +kernel
theorem hd_X9_add : yX9_add.cls = RX9 ∧ yX9_add.cls ≠ "java/lang/invoke/MethodHandle" ∧ yX9_add.cls ≠ "java/lang/invoke/VarHandle" ∧ (parseMethodDescriptor yX9_add.desc).map (fun d => d.parameters.length) = some 1 := by decide +kernel
theorem hs_J7_fill_53178 : yJ7_fill_53178.cls ≠ "java/lang/invoke/MethodHandle" ∧ yJ7_fill_53178.cls ≠ "java/lang/invoke/VarHandle" ∧ (parseMethodDescriptor yJ7_fill_53178.desc).map (fun d => d.parameters.length) = some 2 := by decide +kernel
theorem hs_X12_in : yX12_in.cls ≠ "java/lang/invoke/MethodHandle" ∧ yX12_in.cls ≠ "java/lang/invoke/VarHandle" ∧ (parseMethodDescriptor yX12_in.desc).map (fun d => d.parameters.length) = some 3 := by decide +kernel
set_option maxHeartbeats 4000000 in
set_option maxRecDepth 100000 in
theorem K14_X9_add (l : Launch) (G : va_G) (cy : Nat → ClassId) (sz : Nat) (a_0 : Nat) (i_0 : Int32) (a_12 : Nat)   : mm_CV l yX9_add (mm_ws yX9_add cX9_add 3 (none)) ({ frames := 0, cells := 0, slots := 0, locals := 0 } : Room) G cy sz [(a_0, .inr (9, [.ref a_12, .int 0])), (a_12, .inl (cy 0, 600, .inl (fun _ => 0)))] [.ref a_0, .int i_0] (fun u : (Nat → Int32) => [(a_0, .inr (9, [.ref a_12, .int 4])), (a_12, .inl (cy 0, 600, .inl u))]) (fun u : (Nat → Int32) => mm_ar u (-128) 127) 0 0 := by
  refine mm_begin (lv := [(0, .ref a_0), (1, .int i_0)]) (by decide) (Nat.le_of_ble_eq_true rfl) rfl ?_
  intro p e s m below meth c A ls R args Q H locs hRe hQ hAe hx hb hr hlocks hml hown hnm hts hsz hA hS hP hK hD hl
  have hRf : R.frames = 0 := by rw [hRe]
  have hRl : R.locals = 0 := by rw [hRe]
  have hRc : R.cells = 0 := by rw [hRe]
  have hRs : R.slots = 0 := by rw [hRe]
  refine lv_bipush (v := 24) hx hb dX9_add_0 (by decide) ?_
  refine lv_istore_n (lv' := [(2, .int 24), (0, .ref a_0), (1, .int i_0)]) hx hb dX9_add_2 rfl hl (by decide) rfl ?_
  clear hl
  clear ls
  intro ls hl
  refine lv_iload_n hx hb dX9_add_3 rfl (lv_at hl 0 rfl) ?_
  refine lv_if_lt (tgt := 46) hx hb dX9_add_4 (by decide) (fun c1 => ?_) (fun c1 => ?_)
  · have q2 := mm_ltL (h := (-1)) (mm_lt c1) mm_k24 mm_k0 (by decide)
    exact mm_no q2 (by decide)
  · refine lv_aload_n hx hb dX9_add_7 rfl (lv_at hl 1 rfl) ?_
    refine va_get (D := G) (ci := 9) (v := .int 0) (C := RX9) (T := TX9) (N := 2) hx hb hts (mm_i inlX9) hown hK.1 hP 0 rfl rfl 1 (by decide) (mm_h hts mm_w172) (fun _ h9 => h9) rfl dX9_add_8 ?_
    refine lv_sipush (v := 600) hx hb dX9_add_11 (by decide) ?_
    refine lv_icmp_ge (tgt := 46) hx hb dX9_add_14 (by decide) (fun c3 => ?_) (fun c3 => ?_)
    · have q4 := mm_leL (mm_le c3) mm_k600 mm_k0
      exact mm_no q4 (by decide)
    · refine lv_aload_n hx hb dX9_add_17 rfl (lv_at hl 1 rfl) ?_
      refine va_get (D := G) (ci := 9) (v := .ref a_12) (C := RX9) (T := TX9) (N := 2) hx hb hts (mm_i inlX9) hown hK.1 hP 0 rfl rfl 0 (by decide) (mm_h hts mm_w59) (fun _ h9 => h9) rfl dX9_add_18 ?_
      refine lv_aload_n hx hb dX9_add_21 rfl (lv_at hl 1 rfl) ?_
      refine va_get (D := G) (ci := 9) (v := .int 0) (C := RX9) (T := TX9) (N := 2) hx hb hts (mm_i inlX9) hown hK.1 hP 0 rfl rfl 1 (by decide) (mm_h hts mm_w172) (fun _ h9 => h9) rfl dX9_add_22 ?_
      refine lv_iload_n hx hb dX9_add_25 rfl (lv_at hl 2 rfl) ?_
      refine lv_iload_n hx hb dX9_add_26 rfl (lv_at hl 0 rfl) ?_
      refine lv_ishr hx hb dX9_add_27 ?_
      refine lv_topi (fun v5 ev5 => ?_)
      obtain ⟨v6, ev6⟩ : ∃ y : Int32, y = v5.toInt8.toInt32 := ⟨_, rfl⟩
      refine lv_i2b hx hb dX9_add_28 ev6.symm ?_
      have rv6 : mm_rg v6 (-128) 127 := mm_i2b ev6
      refine va_bast hx hb hK.1 hP hD hS 1 0 rfl rfl (mm_in mm_k0 (by decide)) dX9_add_29 ?_
      clear hP hD hS
      clear H locs
      obtain ⟨g7, eg7⟩ : ∃ z : Nat → Int32, z = upd (fun _ => 0) (0 : Int32).toNatClampNeg (vp_nar .byte v6) := ⟨_, rfl⟩
      rw [← eg7]
      intro H locs (hP : va_P G vwCl [(a_0, .inr (9, [.ref a_12, .int 0])), (a_12, .inl (cy 0, 600, .inl g7))] H) (hD : va_D A [(a_0, .inr (9, [.ref a_12, .int 0])), (a_12, .inl (cy 0, 600, .inl g7))]) hS
      have rg7 : mm_ar g7 (-128) 127 := by rw [eg7]; exact mm_ar_upd (mm_ar_wk (mm_ar_c mm_k0) (by decide)) (mm_nb _) _
      refine lv_aload_n hx hb dX9_add_30 rfl (lv_at hl 1 rfl) ?_
      refine lv_dup hx hb dX9_add_31 rfl ?_
      refine va_get (D := G) (ci := 9) (v := .int 0) (C := RX9) (T := TX9) (N := 2) hx hb hts (mm_i inlX9) hown hK.1 hP 0 rfl rfl 1 (by decide) (mm_h hts mm_w172) (fun _ h9 => h9) rfl dX9_add_32 ?_
      refine lv_iconst (v := 1) hx hb dX9_add_35 (by decide) ?_
      refine lv_iadd hx hb dX9_add_36 ?_
      refine lv_topi (fun v8 ev8 => ?_)
      obtain rfl : v8 = 1 := ev8.trans (by decide)
      refine va_put (D := G) (ci := 9) (v := .int 1) (ty := tyX9 1) (C := RX9) (T := TX9) (N := 2) hx hb hts (mm_i inlX9) tyX9 tyX9_ok nmX9 hown hK.1 hP hD hS 0 rfl rfl 1 (by decide) (mm_h hts mm_w172) (fun _ h9 => h9) rfl (tyX9_ok 1 (by decide)) rfl rfl (Nat.le_of_ble_eq_true rfl) dX9_add_37 ?_
      clear hP hD hS
      clear H locs
      intro H locs (hP : va_P G vwCl [(a_0, .inr (9, [.ref a_12, .int 1])), (a_12, .inl (cy 0, 600, .inl g7))] H) (hD : va_D A [(a_0, .inr (9, [.ref a_12, .int 1])), (a_12, .inl (cy 0, 600, .inl g7))]) hS
      refine lv_iinc (v := 16) (lv' := [(2, .int 16), (0, .ref a_0), (1, .int i_0)]) hx hb dX9_add_40 hl (k := 0) rfl (by decide) (by decide) rfl ?_
      clear hl
      clear ls
      intro ls hl
      refine lv_goto (tgt := 3) hx hb dX9_add_43 (by decide) ?_
      refine lv_iload_n hx hb dX9_add_3 rfl (lv_at hl 0 rfl) ?_
      refine lv_if_lt (tgt := 46) hx hb dX9_add_4 (by decide) (fun c9 => ?_) (fun c9 => ?_)
      · have q10 := mm_ltL (h := (-1)) (mm_lt c9) mm_k16 mm_k0 (by decide)
        exact mm_no q10 (by decide)
      · refine lv_aload_n hx hb dX9_add_7 rfl (lv_at hl 1 rfl) ?_
        refine va_get (D := G) (ci := 9) (v := .int 1) (C := RX9) (T := TX9) (N := 2) hx hb hts (mm_i inlX9) hown hK.1 hP 0 rfl rfl 1 (by decide) (mm_h hts mm_w172) (fun _ h9 => h9) rfl dX9_add_8 ?_
        refine lv_sipush (v := 600) hx hb dX9_add_11 (by decide) ?_
        refine lv_icmp_ge (tgt := 46) hx hb dX9_add_14 (by decide) (fun c11 => ?_) (fun c11 => ?_)
        · have q12 := mm_leL (mm_le c11) mm_k600 mm_k1
          exact mm_no q12 (by decide)
        · refine lv_aload_n hx hb dX9_add_17 rfl (lv_at hl 1 rfl) ?_
          refine va_get (D := G) (ci := 9) (v := .ref a_12) (C := RX9) (T := TX9) (N := 2) hx hb hts (mm_i inlX9) hown hK.1 hP 0 rfl rfl 0 (by decide) (mm_h hts mm_w59) (fun _ h9 => h9) rfl dX9_add_18 ?_
          refine lv_aload_n hx hb dX9_add_21 rfl (lv_at hl 1 rfl) ?_
          refine va_get (D := G) (ci := 9) (v := .int 1) (C := RX9) (T := TX9) (N := 2) hx hb hts (mm_i inlX9) hown hK.1 hP 0 rfl rfl 1 (by decide) (mm_h hts mm_w172) (fun _ h9 => h9) rfl dX9_add_22 ?_
          refine lv_iload_n hx hb dX9_add_25 rfl (lv_at hl 2 rfl) ?_
          refine lv_iload_n hx hb dX9_add_26 rfl (lv_at hl 0 rfl) ?_
          refine lv_ishr hx hb dX9_add_27 ?_
          refine lv_topi (fun v13 ev13 => ?_)
          obtain ⟨v14, ev14⟩ : ∃ y : Int32, y = v13.toInt8.toInt32 := ⟨_, rfl⟩
          refine lv_i2b hx hb dX9_add_28 ev14.symm ?_
          have rv14 : mm_rg v14 (-128) 127 := mm_i2b ev14
          refine va_bast hx hb hK.1 hP hD hS 1 0 rfl rfl (mm_in mm_k1 (by decide)) dX9_add_29 ?_
          clear hP hD hS
          clear H locs
          obtain ⟨g15, eg15⟩ : ∃ z : Nat → Int32, z = upd g7 (1 : Int32).toNatClampNeg (vp_nar .byte v14) := ⟨_, rfl⟩
          rw [← eg15]
          intro H locs (hP : va_P G vwCl [(a_0, .inr (9, [.ref a_12, .int 1])), (a_12, .inl (cy 0, 600, .inl g15))] H) (hD : va_D A [(a_0, .inr (9, [.ref a_12, .int 1])), (a_12, .inl (cy 0, 600, .inl g15))]) hS
          have rg15 : mm_ar g15 (-128) 127 := by rw [eg15]; exact mm_ar_upd (mm_ar_wk rg7 (by decide)) (mm_nb _) _
          refine lv_aload_n hx hb dX9_add_30 rfl (lv_at hl 1 rfl) ?_
          refine lv_dup hx hb dX9_add_31 rfl ?_
          refine va_get (D := G) (ci := 9) (v := .int 1) (C := RX9) (T := TX9) (N := 2) hx hb hts (mm_i inlX9) hown hK.1 hP 0 rfl rfl 1 (by decide) (mm_h hts mm_w172) (fun _ h9 => h9) rfl dX9_add_32 ?_
          refine lv_iconst (v := 1) hx hb dX9_add_35 (by decide) ?_
          refine lv_iadd hx hb dX9_add_36 ?_
          refine lv_topi (fun v16 ev16 => ?_)
          obtain rfl : v16 = 2 := ev16.trans (by decide)
          refine va_put (D := G) (ci := 9) (v := .int 2) (ty := tyX9 1) (C := RX9) (T := TX9) (N := 2) hx hb hts (mm_i inlX9) tyX9 tyX9_ok nmX9 hown hK.1 hP hD hS 0 rfl rfl 1 (by decide) (mm_h hts mm_w172) (fun _ h9 => h9) rfl (tyX9_ok 1 (by decide)) rfl rfl (Nat.le_of_ble_eq_true rfl) dX9_add_37 ?_
          clear hP hD hS
          clear H locs
          intro H locs (hP : va_P G vwCl [(a_0, .inr (9, [.ref a_12, .int 2])), (a_12, .inl (cy 0, 600, .inl g15))] H) (hD : va_D A [(a_0, .inr (9, [.ref a_12, .int 2])), (a_12, .inl (cy 0, 600, .inl g15))]) hS
          refine lv_iinc (v := 8) (lv' := [(2, .int 8), (0, .ref a_0), (1, .int i_0)]) hx hb dX9_add_40 hl (k := 0) rfl (by decide) (by decide) rfl ?_
          clear hl
          clear ls
          intro ls hl
          refine lv_goto (tgt := 3) hx hb dX9_add_43 (by decide) ?_
          refine lv_iload_n hx hb dX9_add_3 rfl (lv_at hl 0 rfl) ?_
          refine lv_if_lt (tgt := 46) hx hb dX9_add_4 (by decide) (fun c17 => ?_) (fun c17 => ?_)
          · have q18 := mm_ltL (h := (-1)) (mm_lt c17) mm_k8 mm_k0 (by decide)
            exact mm_no q18 (by decide)
          · refine lv_aload_n hx hb dX9_add_7 rfl (lv_at hl 1 rfl) ?_
            refine va_get (D := G) (ci := 9) (v := .int 2) (C := RX9) (T := TX9) (N := 2) hx hb hts (mm_i inlX9) hown hK.1 hP 0 rfl rfl 1 (by decide) (mm_h hts mm_w172) (fun _ h9 => h9) rfl dX9_add_8 ?_
            refine lv_sipush (v := 600) hx hb dX9_add_11 (by decide) ?_
            refine lv_icmp_ge (tgt := 46) hx hb dX9_add_14 (by decide) (fun c19 => ?_) (fun c19 => ?_)
            · have q20 := mm_leL (mm_le c19) mm_k600 mm_k2
              exact mm_no q20 (by decide)
            · refine lv_aload_n hx hb dX9_add_17 rfl (lv_at hl 1 rfl) ?_
              refine va_get (D := G) (ci := 9) (v := .ref a_12) (C := RX9) (T := TX9) (N := 2) hx hb hts (mm_i inlX9) hown hK.1 hP 0 rfl rfl 0 (by decide) (mm_h hts mm_w59) (fun _ h9 => h9) rfl dX9_add_18 ?_
              refine lv_aload_n hx hb dX9_add_21 rfl (lv_at hl 1 rfl) ?_
              refine va_get (D := G) (ci := 9) (v := .int 2) (C := RX9) (T := TX9) (N := 2) hx hb hts (mm_i inlX9) hown hK.1 hP 0 rfl rfl 1 (by decide) (mm_h hts mm_w172) (fun _ h9 => h9) rfl dX9_add_22 ?_
              refine lv_iload_n hx hb dX9_add_25 rfl (lv_at hl 2 rfl) ?_
              refine lv_iload_n hx hb dX9_add_26 rfl (lv_at hl 0 rfl) ?_
              refine lv_ishr hx hb dX9_add_27 ?_
              refine lv_topi (fun v21 ev21 => ?_)
              obtain ⟨v22, ev22⟩ : ∃ y : Int32, y = v21.toInt8.toInt32 := ⟨_, rfl⟩
              refine lv_i2b hx hb dX9_add_28 ev22.symm ?_
              have rv22 : mm_rg v22 (-128) 127 := mm_i2b ev22
              refine va_bast hx hb hK.1 hP hD hS 1 0 rfl rfl (mm_in mm_k2 (by decide)) dX9_add_29 ?_
              clear hP hD hS
              clear H locs
              obtain ⟨g23, eg23⟩ : ∃ z : Nat → Int32, z = upd g15 (2 : Int32).toNatClampNeg (vp_nar .byte v22) := ⟨_, rfl⟩
              rw [← eg23]
              intro H locs (hP : va_P G vwCl [(a_0, .inr (9, [.ref a_12, .int 2])), (a_12, .inl (cy 0, 600, .inl g23))] H) (hD : va_D A [(a_0, .inr (9, [.ref a_12, .int 2])), (a_12, .inl (cy 0, 600, .inl g23))]) hS
              have rg23 : mm_ar g23 (-128) 127 := by rw [eg23]; exact mm_ar_upd (mm_ar_wk rg15 (by decide)) (mm_nb _) _
              refine lv_aload_n hx hb dX9_add_30 rfl (lv_at hl 1 rfl) ?_
              refine lv_dup hx hb dX9_add_31 rfl ?_
              refine va_get (D := G) (ci := 9) (v := .int 2) (C := RX9) (T := TX9) (N := 2) hx hb hts (mm_i inlX9) hown hK.1 hP 0 rfl rfl 1 (by decide) (mm_h hts mm_w172) (fun _ h9 => h9) rfl dX9_add_32 ?_
              refine lv_iconst (v := 1) hx hb dX9_add_35 (by decide) ?_
              refine lv_iadd hx hb dX9_add_36 ?_
              refine lv_topi (fun v24 ev24 => ?_)
              obtain rfl : v24 = 3 := ev24.trans (by decide)
              refine va_put (D := G) (ci := 9) (v := .int 3) (ty := tyX9 1) (C := RX9) (T := TX9) (N := 2) hx hb hts (mm_i inlX9) tyX9 tyX9_ok nmX9 hown hK.1 hP hD hS 0 rfl rfl 1 (by decide) (mm_h hts mm_w172) (fun _ h9 => h9) rfl (tyX9_ok 1 (by decide)) rfl rfl (Nat.le_of_ble_eq_true rfl) dX9_add_37 ?_
              clear hP hD hS
              clear H locs
              intro H locs (hP : va_P G vwCl [(a_0, .inr (9, [.ref a_12, .int 3])), (a_12, .inl (cy 0, 600, .inl g23))] H) (hD : va_D A [(a_0, .inr (9, [.ref a_12, .int 3])), (a_12, .inl (cy 0, 600, .inl g23))]) hS
              refine lv_iinc (v := 0) (lv' := [(2, .int 0), (0, .ref a_0), (1, .int i_0)]) hx hb dX9_add_40 hl (k := 0) rfl (by decide) (by decide) rfl ?_
              clear hl
              clear ls
              intro ls hl
              refine lv_goto (tgt := 3) hx hb dX9_add_43 (by decide) ?_
              refine lv_iload_n hx hb dX9_add_3 rfl (lv_at hl 0 rfl) ?_
              refine lv_if_lt (tgt := 46) hx hb dX9_add_4 (by decide) (fun c25 => ?_) (fun c25 => ?_)
              · have q26 := mm_ltL (h := (-1)) (mm_lt c25) mm_k0 mm_k0 (by decide)
                exact mm_no q26 (by decide)
              · refine lv_aload_n hx hb dX9_add_7 rfl (lv_at hl 1 rfl) ?_
                refine va_get (D := G) (ci := 9) (v := .int 3) (C := RX9) (T := TX9) (N := 2) hx hb hts (mm_i inlX9) hown hK.1 hP 0 rfl rfl 1 (by decide) (mm_h hts mm_w172) (fun _ h9 => h9) rfl dX9_add_8 ?_
                refine lv_sipush (v := 600) hx hb dX9_add_11 (by decide) ?_
                refine lv_icmp_ge (tgt := 46) hx hb dX9_add_14 (by decide) (fun c27 => ?_) (fun c27 => ?_)
                · have q28 := mm_leL (mm_le c27) mm_k600 mm_k3
                  exact mm_no q28 (by decide)
                · refine lv_aload_n hx hb dX9_add_17 rfl (lv_at hl 1 rfl) ?_
                  refine va_get (D := G) (ci := 9) (v := .ref a_12) (C := RX9) (T := TX9) (N := 2) hx hb hts (mm_i inlX9) hown hK.1 hP 0 rfl rfl 0 (by decide) (mm_h hts mm_w59) (fun _ h9 => h9) rfl dX9_add_18 ?_
                  refine lv_aload_n hx hb dX9_add_21 rfl (lv_at hl 1 rfl) ?_
                  refine va_get (D := G) (ci := 9) (v := .int 3) (C := RX9) (T := TX9) (N := 2) hx hb hts (mm_i inlX9) hown hK.1 hP 0 rfl rfl 1 (by decide) (mm_h hts mm_w172) (fun _ h9 => h9) rfl dX9_add_22 ?_
                  refine lv_iload_n hx hb dX9_add_25 rfl (lv_at hl 2 rfl) ?_
                  refine lv_iload_n hx hb dX9_add_26 rfl (lv_at hl 0 rfl) ?_
                  refine lv_ishr hx hb dX9_add_27 ?_
                  refine lv_topi (fun v29 ev29 => ?_)
                  obtain ⟨v30, ev30⟩ : ∃ y : Int32, y = v29.toInt8.toInt32 := ⟨_, rfl⟩
                  refine lv_i2b hx hb dX9_add_28 ev30.symm ?_
                  have rv30 : mm_rg v30 (-128) 127 := mm_i2b ev30
                  refine va_bast hx hb hK.1 hP hD hS 1 0 rfl rfl (mm_in mm_k3 (by decide)) dX9_add_29 ?_
                  clear hP hD hS
                  clear H locs
                  obtain ⟨g31, eg31⟩ : ∃ z : Nat → Int32, z = upd g23 (3 : Int32).toNatClampNeg (vp_nar .byte v30) := ⟨_, rfl⟩
                  rw [← eg31]
                  intro H locs (hP : va_P G vwCl [(a_0, .inr (9, [.ref a_12, .int 3])), (a_12, .inl (cy 0, 600, .inl g31))] H) (hD : va_D A [(a_0, .inr (9, [.ref a_12, .int 3])), (a_12, .inl (cy 0, 600, .inl g31))]) hS
                  have rg31 : mm_ar g31 (-128) 127 := by rw [eg31]; exact mm_ar_upd (mm_ar_wk rg23 (by decide)) (mm_nb _) _
                  refine lv_aload_n hx hb dX9_add_30 rfl (lv_at hl 1 rfl) ?_
                  refine lv_dup hx hb dX9_add_31 rfl ?_
                  refine va_get (D := G) (ci := 9) (v := .int 3) (C := RX9) (T := TX9) (N := 2) hx hb hts (mm_i inlX9) hown hK.1 hP 0 rfl rfl 1 (by decide) (mm_h hts mm_w172) (fun _ h9 => h9) rfl dX9_add_32 ?_
                  refine lv_iconst (v := 1) hx hb dX9_add_35 (by decide) ?_
                  refine lv_iadd hx hb dX9_add_36 ?_
                  refine lv_topi (fun v32 ev32 => ?_)
                  obtain rfl : v32 = 4 := ev32.trans (by decide)
                  refine va_put (D := G) (ci := 9) (v := .int 4) (ty := tyX9 1) (C := RX9) (T := TX9) (N := 2) hx hb hts (mm_i inlX9) tyX9 tyX9_ok nmX9 hown hK.1 hP hD hS 0 rfl rfl 1 (by decide) (mm_h hts mm_w172) (fun _ h9 => h9) rfl (tyX9_ok 1 (by decide)) rfl rfl (Nat.le_of_ble_eq_true rfl) dX9_add_37 ?_
                  clear hP hD hS
                  clear H locs
                  intro H locs (hP : va_P G vwCl [(a_0, .inr (9, [.ref a_12, .int 4])), (a_12, .inl (cy 0, 600, .inl g31))] H) (hD : va_D A [(a_0, .inr (9, [.ref a_12, .int 4])), (a_12, .inl (cy 0, 600, .inl g31))]) hS
                  refine lv_iinc (v := (-8)) (lv' := [(2, .int (-8)), (0, .ref a_0), (1, .int i_0)]) hx hb dX9_add_40 hl (k := 0) rfl (by decide) (by decide) rfl ?_
                  clear hl
                  clear ls
                  intro ls hl
                  refine lv_goto (tgt := 3) hx hb dX9_add_43 (by decide) ?_
                  refine lv_iload_n hx hb dX9_add_3 rfl (lv_at hl 0 rfl) ?_
                  refine lv_if_lt (tgt := 46) hx hb dX9_add_4 (by decide) (fun c33 => ?_) (fun c33 => ?_)
                  · subst hAe
                    rw [hQ]
                    exact W.vret hx hb hr (fun t ht hW => ⟨⟨g31, rfl, rg31, by rw [ht]; exact hP, hK.warm hW, hD⟩, hS.F ht⟩) hS.2.2 dX9_add_46
                  · have q34 := mm_leL (mm_nlt c33) mm_k0 mm_km8
                    exact mm_no q34 (by decide)

set_option maxHeartbeats 4000000 in
set_option maxRecDepth 100000 in
theorem K15_X9_add (l : Launch) (G : va_G) (cy : Nat → ClassId) (sz : Nat) (a_0 : Nat) (i_0 : Int32) (a_12 : Nat) (f_0 : Nat → Int32) (h0 : mm_ar f_0 (-128) 127)  : mm_CV l yX9_add (mm_ws yX9_add cX9_add 3 (none)) ({ frames := 0, cells := 0, slots := 0, locals := 0 } : Room) G cy sz [(a_0, .inr (9, [.ref a_12, .int 4])), (a_12, .inl (cy 0, 600, .inl f_0))] [.ref a_0, .int i_0] (fun u : (Nat → Int32) => [(a_0, .inr (9, [.ref a_12, .int 8])), (a_12, .inl (cy 0, 600, .inl u))]) (fun u : (Nat → Int32) => mm_ar u (-128) 127) 0 0 := by
  refine mm_begin (lv := [(0, .ref a_0), (1, .int i_0)]) (by decide) (Nat.le_of_ble_eq_true rfl) rfl ?_
  intro p e s m below meth c A ls R args Q H locs hRe hQ hAe hx hb hr hlocks hml hown hnm hts hsz hA hS hP hK hD hl
  have hRf : R.frames = 0 := by rw [hRe]
  have hRl : R.locals = 0 := by rw [hRe]
  have hRc : R.cells = 0 := by rw [hRe]
  have hRs : R.slots = 0 := by rw [hRe]
  refine lv_bipush (v := 24) hx hb dX9_add_0 (by decide) ?_
  refine lv_istore_n (lv' := [(2, .int 24), (0, .ref a_0), (1, .int i_0)]) hx hb dX9_add_2 rfl hl (by decide) rfl ?_
  clear hl
  clear ls
  intro ls hl
  refine lv_iload_n hx hb dX9_add_3 rfl (lv_at hl 0 rfl) ?_
  refine lv_if_lt (tgt := 46) hx hb dX9_add_4 (by decide) (fun c1 => ?_) (fun c1 => ?_)
  · have q2 := mm_ltL (h := (-1)) (mm_lt c1) mm_k24 mm_k0 (by decide)
    exact mm_no q2 (by decide)
  · refine lv_aload_n hx hb dX9_add_7 rfl (lv_at hl 1 rfl) ?_
    refine va_get (D := G) (ci := 9) (v := .int 4) (C := RX9) (T := TX9) (N := 2) hx hb hts (mm_i inlX9) hown hK.1 hP 0 rfl rfl 1 (by decide) (mm_h hts mm_w172) (fun _ h9 => h9) rfl dX9_add_8 ?_
    refine lv_sipush (v := 600) hx hb dX9_add_11 (by decide) ?_
    refine lv_icmp_ge (tgt := 46) hx hb dX9_add_14 (by decide) (fun c3 => ?_) (fun c3 => ?_)
    · have q4 := mm_leL (mm_le c3) mm_k600 mm_k4
      exact mm_no q4 (by decide)
    · refine lv_aload_n hx hb dX9_add_17 rfl (lv_at hl 1 rfl) ?_
      refine va_get (D := G) (ci := 9) (v := .ref a_12) (C := RX9) (T := TX9) (N := 2) hx hb hts (mm_i inlX9) hown hK.1 hP 0 rfl rfl 0 (by decide) (mm_h hts mm_w59) (fun _ h9 => h9) rfl dX9_add_18 ?_
      refine lv_aload_n hx hb dX9_add_21 rfl (lv_at hl 1 rfl) ?_
      refine va_get (D := G) (ci := 9) (v := .int 4) (C := RX9) (T := TX9) (N := 2) hx hb hts (mm_i inlX9) hown hK.1 hP 0 rfl rfl 1 (by decide) (mm_h hts mm_w172) (fun _ h9 => h9) rfl dX9_add_22 ?_
      refine lv_iload_n hx hb dX9_add_25 rfl (lv_at hl 2 rfl) ?_
      refine lv_iload_n hx hb dX9_add_26 rfl (lv_at hl 0 rfl) ?_
      refine lv_ishr hx hb dX9_add_27 ?_
      refine lv_topi (fun v5 ev5 => ?_)
      obtain ⟨v6, ev6⟩ : ∃ y : Int32, y = v5.toInt8.toInt32 := ⟨_, rfl⟩
      refine lv_i2b hx hb dX9_add_28 ev6.symm ?_
      have rv6 : mm_rg v6 (-128) 127 := mm_i2b ev6
      refine va_bast hx hb hK.1 hP hD hS 1 0 rfl rfl (mm_in mm_k4 (by decide)) dX9_add_29 ?_
      clear hP hD hS
      clear H locs
      obtain ⟨g7, eg7⟩ : ∃ z : Nat → Int32, z = upd f_0 (4 : Int32).toNatClampNeg (vp_nar .byte v6) := ⟨_, rfl⟩
      rw [← eg7]
      intro H locs (hP : va_P G vwCl [(a_0, .inr (9, [.ref a_12, .int 4])), (a_12, .inl (cy 0, 600, .inl g7))] H) (hD : va_D A [(a_0, .inr (9, [.ref a_12, .int 4])), (a_12, .inl (cy 0, 600, .inl g7))]) hS
      have rg7 : mm_ar g7 (-128) 127 := by rw [eg7]; exact mm_ar_upd (mm_ar_wk h0 (by decide)) (mm_nb _) _
      refine lv_aload_n hx hb dX9_add_30 rfl (lv_at hl 1 rfl) ?_
      refine lv_dup hx hb dX9_add_31 rfl ?_
      refine va_get (D := G) (ci := 9) (v := .int 4) (C := RX9) (T := TX9) (N := 2) hx hb hts (mm_i inlX9) hown hK.1 hP 0 rfl rfl 1 (by decide) (mm_h hts mm_w172) (fun _ h9 => h9) rfl dX9_add_32 ?_
      refine lv_iconst (v := 1) hx hb dX9_add_35 (by decide) ?_
      refine lv_iadd hx hb dX9_add_36 ?_
      refine lv_topi (fun v8 ev8 => ?_)
      obtain rfl : v8 = 5 := ev8.trans (by decide)
      refine va_put (D := G) (ci := 9) (v := .int 5) (ty := tyX9 1) (C := RX9) (T := TX9) (N := 2) hx hb hts (mm_i inlX9) tyX9 tyX9_ok nmX9 hown hK.1 hP hD hS 0 rfl rfl 1 (by decide) (mm_h hts mm_w172) (fun _ h9 => h9) rfl (tyX9_ok 1 (by decide)) rfl rfl (Nat.le_of_ble_eq_true rfl) dX9_add_37 ?_
      clear hP hD hS
      clear H locs
      intro H locs (hP : va_P G vwCl [(a_0, .inr (9, [.ref a_12, .int 5])), (a_12, .inl (cy 0, 600, .inl g7))] H) (hD : va_D A [(a_0, .inr (9, [.ref a_12, .int 5])), (a_12, .inl (cy 0, 600, .inl g7))]) hS
      refine lv_iinc (v := 16) (lv' := [(2, .int 16), (0, .ref a_0), (1, .int i_0)]) hx hb dX9_add_40 hl (k := 0) rfl (by decide) (by decide) rfl ?_
      clear hl
      clear ls
      intro ls hl
      refine lv_goto (tgt := 3) hx hb dX9_add_43 (by decide) ?_
      refine lv_iload_n hx hb dX9_add_3 rfl (lv_at hl 0 rfl) ?_
      refine lv_if_lt (tgt := 46) hx hb dX9_add_4 (by decide) (fun c9 => ?_) (fun c9 => ?_)
      · have q10 := mm_ltL (h := (-1)) (mm_lt c9) mm_k16 mm_k0 (by decide)
        exact mm_no q10 (by decide)
      · refine lv_aload_n hx hb dX9_add_7 rfl (lv_at hl 1 rfl) ?_
        refine va_get (D := G) (ci := 9) (v := .int 5) (C := RX9) (T := TX9) (N := 2) hx hb hts (mm_i inlX9) hown hK.1 hP 0 rfl rfl 1 (by decide) (mm_h hts mm_w172) (fun _ h9 => h9) rfl dX9_add_8 ?_
        refine lv_sipush (v := 600) hx hb dX9_add_11 (by decide) ?_
        refine lv_icmp_ge (tgt := 46) hx hb dX9_add_14 (by decide) (fun c11 => ?_) (fun c11 => ?_)
        · have q12 := mm_leL (mm_le c11) mm_k600 mm_k5
          exact mm_no q12 (by decide)
        · refine lv_aload_n hx hb dX9_add_17 rfl (lv_at hl 1 rfl) ?_
          refine va_get (D := G) (ci := 9) (v := .ref a_12) (C := RX9) (T := TX9) (N := 2) hx hb hts (mm_i inlX9) hown hK.1 hP 0 rfl rfl 0 (by decide) (mm_h hts mm_w59) (fun _ h9 => h9) rfl dX9_add_18 ?_
          refine lv_aload_n hx hb dX9_add_21 rfl (lv_at hl 1 rfl) ?_
          refine va_get (D := G) (ci := 9) (v := .int 5) (C := RX9) (T := TX9) (N := 2) hx hb hts (mm_i inlX9) hown hK.1 hP 0 rfl rfl 1 (by decide) (mm_h hts mm_w172) (fun _ h9 => h9) rfl dX9_add_22 ?_
          refine lv_iload_n hx hb dX9_add_25 rfl (lv_at hl 2 rfl) ?_
          refine lv_iload_n hx hb dX9_add_26 rfl (lv_at hl 0 rfl) ?_
          refine lv_ishr hx hb dX9_add_27 ?_
          refine lv_topi (fun v13 ev13 => ?_)
          obtain ⟨v14, ev14⟩ : ∃ y : Int32, y = v13.toInt8.toInt32 := ⟨_, rfl⟩
          refine lv_i2b hx hb dX9_add_28 ev14.symm ?_
          have rv14 : mm_rg v14 (-128) 127 := mm_i2b ev14
          refine va_bast hx hb hK.1 hP hD hS 1 0 rfl rfl (mm_in mm_k5 (by decide)) dX9_add_29 ?_
          clear hP hD hS
          clear H locs
          obtain ⟨g15, eg15⟩ : ∃ z : Nat → Int32, z = upd g7 (5 : Int32).toNatClampNeg (vp_nar .byte v14) := ⟨_, rfl⟩
          rw [← eg15]
          intro H locs (hP : va_P G vwCl [(a_0, .inr (9, [.ref a_12, .int 5])), (a_12, .inl (cy 0, 600, .inl g15))] H) (hD : va_D A [(a_0, .inr (9, [.ref a_12, .int 5])), (a_12, .inl (cy 0, 600, .inl g15))]) hS
          have rg15 : mm_ar g15 (-128) 127 := by rw [eg15]; exact mm_ar_upd (mm_ar_wk rg7 (by decide)) (mm_nb _) _
          refine lv_aload_n hx hb dX9_add_30 rfl (lv_at hl 1 rfl) ?_
          refine lv_dup hx hb dX9_add_31 rfl ?_
          refine va_get (D := G) (ci := 9) (v := .int 5) (C := RX9) (T := TX9) (N := 2) hx hb hts (mm_i inlX9) hown hK.1 hP 0 rfl rfl 1 (by decide) (mm_h hts mm_w172) (fun _ h9 => h9) rfl dX9_add_32 ?_
          refine lv_iconst (v := 1) hx hb dX9_add_35 (by decide) ?_
          refine lv_iadd hx hb dX9_add_36 ?_
          refine lv_topi (fun v16 ev16 => ?_)
          obtain rfl : v16 = 6 := ev16.trans (by decide)
          refine va_put (D := G) (ci := 9) (v := .int 6) (ty := tyX9 1) (C := RX9) (T := TX9) (N := 2) hx hb hts (mm_i inlX9) tyX9 tyX9_ok nmX9 hown hK.1 hP hD hS 0 rfl rfl 1 (by decide) (mm_h hts mm_w172) (fun _ h9 => h9) rfl (tyX9_ok 1 (by decide)) rfl rfl (Nat.le_of_ble_eq_true rfl) dX9_add_37 ?_
          clear hP hD hS
          clear H locs
          intro H locs (hP : va_P G vwCl [(a_0, .inr (9, [.ref a_12, .int 6])), (a_12, .inl (cy 0, 600, .inl g15))] H) (hD : va_D A [(a_0, .inr (9, [.ref a_12, .int 6])), (a_12, .inl (cy 0, 600, .inl g15))]) hS
          refine lv_iinc (v := 8) (lv' := [(2, .int 8), (0, .ref a_0), (1, .int i_0)]) hx hb dX9_add_40 hl (k := 0) rfl (by decide) (by decide) rfl ?_
          clear hl
          clear ls
          intro ls hl
          refine lv_goto (tgt := 3) hx hb dX9_add_43 (by decide) ?_
          refine lv_iload_n hx hb dX9_add_3 rfl (lv_at hl 0 rfl) ?_
          refine lv_if_lt (tgt := 46) hx hb dX9_add_4 (by decide) (fun c17 => ?_) (fun c17 => ?_)
          · have q18 := mm_ltL (h := (-1)) (mm_lt c17) mm_k8 mm_k0 (by decide)
            exact mm_no q18 (by decide)
          · refine lv_aload_n hx hb dX9_add_7 rfl (lv_at hl 1 rfl) ?_
            refine va_get (D := G) (ci := 9) (v := .int 6) (C := RX9) (T := TX9) (N := 2) hx hb hts (mm_i inlX9) hown hK.1 hP 0 rfl rfl 1 (by decide) (mm_h hts mm_w172) (fun _ h9 => h9) rfl dX9_add_8 ?_
            refine lv_sipush (v := 600) hx hb dX9_add_11 (by decide) ?_
            refine lv_icmp_ge (tgt := 46) hx hb dX9_add_14 (by decide) (fun c19 => ?_) (fun c19 => ?_)
            · have q20 := mm_leL (mm_le c19) mm_k600 mm_k6
              exact mm_no q20 (by decide)
            · refine lv_aload_n hx hb dX9_add_17 rfl (lv_at hl 1 rfl) ?_
              refine va_get (D := G) (ci := 9) (v := .ref a_12) (C := RX9) (T := TX9) (N := 2) hx hb hts (mm_i inlX9) hown hK.1 hP 0 rfl rfl 0 (by decide) (mm_h hts mm_w59) (fun _ h9 => h9) rfl dX9_add_18 ?_
              refine lv_aload_n hx hb dX9_add_21 rfl (lv_at hl 1 rfl) ?_
              refine va_get (D := G) (ci := 9) (v := .int 6) (C := RX9) (T := TX9) (N := 2) hx hb hts (mm_i inlX9) hown hK.1 hP 0 rfl rfl 1 (by decide) (mm_h hts mm_w172) (fun _ h9 => h9) rfl dX9_add_22 ?_
              refine lv_iload_n hx hb dX9_add_25 rfl (lv_at hl 2 rfl) ?_
              refine lv_iload_n hx hb dX9_add_26 rfl (lv_at hl 0 rfl) ?_
              refine lv_ishr hx hb dX9_add_27 ?_
              refine lv_topi (fun v21 ev21 => ?_)
              obtain ⟨v22, ev22⟩ : ∃ y : Int32, y = v21.toInt8.toInt32 := ⟨_, rfl⟩
              refine lv_i2b hx hb dX9_add_28 ev22.symm ?_
              have rv22 : mm_rg v22 (-128) 127 := mm_i2b ev22
              refine va_bast hx hb hK.1 hP hD hS 1 0 rfl rfl (mm_in mm_k6 (by decide)) dX9_add_29 ?_
              clear hP hD hS
              clear H locs
              obtain ⟨g23, eg23⟩ : ∃ z : Nat → Int32, z = upd g15 (6 : Int32).toNatClampNeg (vp_nar .byte v22) := ⟨_, rfl⟩
              rw [← eg23]
              intro H locs (hP : va_P G vwCl [(a_0, .inr (9, [.ref a_12, .int 6])), (a_12, .inl (cy 0, 600, .inl g23))] H) (hD : va_D A [(a_0, .inr (9, [.ref a_12, .int 6])), (a_12, .inl (cy 0, 600, .inl g23))]) hS
              have rg23 : mm_ar g23 (-128) 127 := by rw [eg23]; exact mm_ar_upd (mm_ar_wk rg15 (by decide)) (mm_nb _) _
              refine lv_aload_n hx hb dX9_add_30 rfl (lv_at hl 1 rfl) ?_
              refine lv_dup hx hb dX9_add_31 rfl ?_
              refine va_get (D := G) (ci := 9) (v := .int 6) (C := RX9) (T := TX9) (N := 2) hx hb hts (mm_i inlX9) hown hK.1 hP 0 rfl rfl 1 (by decide) (mm_h hts mm_w172) (fun _ h9 => h9) rfl dX9_add_32 ?_
              refine lv_iconst (v := 1) hx hb dX9_add_35 (by decide) ?_
              refine lv_iadd hx hb dX9_add_36 ?_
              refine lv_topi (fun v24 ev24 => ?_)
              obtain rfl : v24 = 7 := ev24.trans (by decide)
              refine va_put (D := G) (ci := 9) (v := .int 7) (ty := tyX9 1) (C := RX9) (T := TX9) (N := 2) hx hb hts (mm_i inlX9) tyX9 tyX9_ok nmX9 hown hK.1 hP hD hS 0 rfl rfl 1 (by decide) (mm_h hts mm_w172) (fun _ h9 => h9) rfl (tyX9_ok 1 (by decide)) rfl rfl (Nat.le_of_ble_eq_true rfl) dX9_add_37 ?_
              clear hP hD hS
              clear H locs
              intro H locs (hP : va_P G vwCl [(a_0, .inr (9, [.ref a_12, .int 7])), (a_12, .inl (cy 0, 600, .inl g23))] H) (hD : va_D A [(a_0, .inr (9, [.ref a_12, .int 7])), (a_12, .inl (cy 0, 600, .inl g23))]) hS
              refine lv_iinc (v := 0) (lv' := [(2, .int 0), (0, .ref a_0), (1, .int i_0)]) hx hb dX9_add_40 hl (k := 0) rfl (by decide) (by decide) rfl ?_
              clear hl
              clear ls
              intro ls hl
              refine lv_goto (tgt := 3) hx hb dX9_add_43 (by decide) ?_
              refine lv_iload_n hx hb dX9_add_3 rfl (lv_at hl 0 rfl) ?_
              refine lv_if_lt (tgt := 46) hx hb dX9_add_4 (by decide) (fun c25 => ?_) (fun c25 => ?_)
              · have q26 := mm_ltL (h := (-1)) (mm_lt c25) mm_k0 mm_k0 (by decide)
                exact mm_no q26 (by decide)
              · refine lv_aload_n hx hb dX9_add_7 rfl (lv_at hl 1 rfl) ?_
                refine va_get (D := G) (ci := 9) (v := .int 7) (C := RX9) (T := TX9) (N := 2) hx hb hts (mm_i inlX9) hown hK.1 hP 0 rfl rfl 1 (by decide) (mm_h hts mm_w172) (fun _ h9 => h9) rfl dX9_add_8 ?_
                refine lv_sipush (v := 600) hx hb dX9_add_11 (by decide) ?_
                refine lv_icmp_ge (tgt := 46) hx hb dX9_add_14 (by decide) (fun c27 => ?_) (fun c27 => ?_)
                · have q28 := mm_leL (mm_le c27) mm_k600 mm_k7
                  exact mm_no q28 (by decide)
                · refine lv_aload_n hx hb dX9_add_17 rfl (lv_at hl 1 rfl) ?_
                  refine va_get (D := G) (ci := 9) (v := .ref a_12) (C := RX9) (T := TX9) (N := 2) hx hb hts (mm_i inlX9) hown hK.1 hP 0 rfl rfl 0 (by decide) (mm_h hts mm_w59) (fun _ h9 => h9) rfl dX9_add_18 ?_
                  refine lv_aload_n hx hb dX9_add_21 rfl (lv_at hl 1 rfl) ?_
                  refine va_get (D := G) (ci := 9) (v := .int 7) (C := RX9) (T := TX9) (N := 2) hx hb hts (mm_i inlX9) hown hK.1 hP 0 rfl rfl 1 (by decide) (mm_h hts mm_w172) (fun _ h9 => h9) rfl dX9_add_22 ?_
                  refine lv_iload_n hx hb dX9_add_25 rfl (lv_at hl 2 rfl) ?_
                  refine lv_iload_n hx hb dX9_add_26 rfl (lv_at hl 0 rfl) ?_
                  refine lv_ishr hx hb dX9_add_27 ?_
                  refine lv_topi (fun v29 ev29 => ?_)
                  obtain ⟨v30, ev30⟩ : ∃ y : Int32, y = v29.toInt8.toInt32 := ⟨_, rfl⟩
                  refine lv_i2b hx hb dX9_add_28 ev30.symm ?_
                  have rv30 : mm_rg v30 (-128) 127 := mm_i2b ev30
                  refine va_bast hx hb hK.1 hP hD hS 1 0 rfl rfl (mm_in mm_k7 (by decide)) dX9_add_29 ?_
                  clear hP hD hS
                  clear H locs
                  obtain ⟨g31, eg31⟩ : ∃ z : Nat → Int32, z = upd g23 (7 : Int32).toNatClampNeg (vp_nar .byte v30) := ⟨_, rfl⟩
                  rw [← eg31]
                  intro H locs (hP : va_P G vwCl [(a_0, .inr (9, [.ref a_12, .int 7])), (a_12, .inl (cy 0, 600, .inl g31))] H) (hD : va_D A [(a_0, .inr (9, [.ref a_12, .int 7])), (a_12, .inl (cy 0, 600, .inl g31))]) hS
                  have rg31 : mm_ar g31 (-128) 127 := by rw [eg31]; exact mm_ar_upd (mm_ar_wk rg23 (by decide)) (mm_nb _) _
                  refine lv_aload_n hx hb dX9_add_30 rfl (lv_at hl 1 rfl) ?_
                  refine lv_dup hx hb dX9_add_31 rfl ?_
                  refine va_get (D := G) (ci := 9) (v := .int 7) (C := RX9) (T := TX9) (N := 2) hx hb hts (mm_i inlX9) hown hK.1 hP 0 rfl rfl 1 (by decide) (mm_h hts mm_w172) (fun _ h9 => h9) rfl dX9_add_32 ?_
                  refine lv_iconst (v := 1) hx hb dX9_add_35 (by decide) ?_
                  refine lv_iadd hx hb dX9_add_36 ?_
                  refine lv_topi (fun v32 ev32 => ?_)
                  obtain rfl : v32 = 8 := ev32.trans (by decide)
                  refine va_put (D := G) (ci := 9) (v := .int 8) (ty := tyX9 1) (C := RX9) (T := TX9) (N := 2) hx hb hts (mm_i inlX9) tyX9 tyX9_ok nmX9 hown hK.1 hP hD hS 0 rfl rfl 1 (by decide) (mm_h hts mm_w172) (fun _ h9 => h9) rfl (tyX9_ok 1 (by decide)) rfl rfl (Nat.le_of_ble_eq_true rfl) dX9_add_37 ?_
                  clear hP hD hS
                  clear H locs
                  intro H locs (hP : va_P G vwCl [(a_0, .inr (9, [.ref a_12, .int 8])), (a_12, .inl (cy 0, 600, .inl g31))] H) (hD : va_D A [(a_0, .inr (9, [.ref a_12, .int 8])), (a_12, .inl (cy 0, 600, .inl g31))]) hS
                  refine lv_iinc (v := (-8)) (lv' := [(2, .int (-8)), (0, .ref a_0), (1, .int i_0)]) hx hb dX9_add_40 hl (k := 0) rfl (by decide) (by decide) rfl ?_
                  clear hl
                  clear ls
                  intro ls hl
                  refine lv_goto (tgt := 3) hx hb dX9_add_43 (by decide) ?_
                  refine lv_iload_n hx hb dX9_add_3 rfl (lv_at hl 0 rfl) ?_
                  refine lv_if_lt (tgt := 46) hx hb dX9_add_4 (by decide) (fun c33 => ?_) (fun c33 => ?_)
                  · subst hAe
                    rw [hQ]
                    exact W.vret hx hb hr (fun t ht hW => ⟨⟨g31, rfl, rg31, by rw [ht]; exact hP, hK.warm hW, hD⟩, hS.F ht⟩) hS.2.2 dX9_add_46
                  · have q34 := mm_leL (mm_nlt c33) mm_k0 mm_km8
                    exact mm_no q34 (by decide)

set_option maxHeartbeats 4000000 in
set_option maxRecDepth 100000 in
theorem K16_X9_add (l : Launch) (G : va_G) (cy : Nat → ClassId) (sz : Nat) (a_0 : Nat) (i_0 : Int32) (a_12 : Nat) (f_0 : Nat → Int32) (h0 : mm_ar f_0 (-128) 127)  : mm_CV l yX9_add (mm_ws yX9_add cX9_add 3 (none)) ({ frames := 0, cells := 0, slots := 0, locals := 0 } : Room) G cy sz [(a_0, .inr (9, [.ref a_12, .int 8])), (a_12, .inl (cy 0, 600, .inl f_0))] [.ref a_0, .int i_0] (fun u : (Nat → Int32) => [(a_0, .inr (9, [.ref a_12, .int 12])), (a_12, .inl (cy 0, 600, .inl u))]) (fun u : (Nat → Int32) => mm_ar u (-128) 127) 0 0 := by
  refine mm_begin (lv := [(0, .ref a_0), (1, .int i_0)]) (by decide) (Nat.le_of_ble_eq_true rfl) rfl ?_
  intro p e s m below meth c A ls R args Q H locs hRe hQ hAe hx hb hr hlocks hml hown hnm hts hsz hA hS hP hK hD hl
  have hRf : R.frames = 0 := by rw [hRe]
  have hRl : R.locals = 0 := by rw [hRe]
  have hRc : R.cells = 0 := by rw [hRe]
  have hRs : R.slots = 0 := by rw [hRe]
  refine lv_bipush (v := 24) hx hb dX9_add_0 (by decide) ?_
  refine lv_istore_n (lv' := [(2, .int 24), (0, .ref a_0), (1, .int i_0)]) hx hb dX9_add_2 rfl hl (by decide) rfl ?_
  clear hl
  clear ls
  intro ls hl
  refine lv_iload_n hx hb dX9_add_3 rfl (lv_at hl 0 rfl) ?_
  refine lv_if_lt (tgt := 46) hx hb dX9_add_4 (by decide) (fun c1 => ?_) (fun c1 => ?_)
  · have q2 := mm_ltL (h := (-1)) (mm_lt c1) mm_k24 mm_k0 (by decide)
    exact mm_no q2 (by decide)
  · refine lv_aload_n hx hb dX9_add_7 rfl (lv_at hl 1 rfl) ?_
    refine va_get (D := G) (ci := 9) (v := .int 8) (C := RX9) (T := TX9) (N := 2) hx hb hts (mm_i inlX9) hown hK.1 hP 0 rfl rfl 1 (by decide) (mm_h hts mm_w172) (fun _ h9 => h9) rfl dX9_add_8 ?_
    refine lv_sipush (v := 600) hx hb dX9_add_11 (by decide) ?_
    refine lv_icmp_ge (tgt := 46) hx hb dX9_add_14 (by decide) (fun c3 => ?_) (fun c3 => ?_)
    · have q4 := mm_leL (mm_le c3) mm_k600 mm_k8
      exact mm_no q4 (by decide)
    · refine lv_aload_n hx hb dX9_add_17 rfl (lv_at hl 1 rfl) ?_
      refine va_get (D := G) (ci := 9) (v := .ref a_12) (C := RX9) (T := TX9) (N := 2) hx hb hts (mm_i inlX9) hown hK.1 hP 0 rfl rfl 0 (by decide) (mm_h hts mm_w59) (fun _ h9 => h9) rfl dX9_add_18 ?_
      refine lv_aload_n hx hb dX9_add_21 rfl (lv_at hl 1 rfl) ?_
      refine va_get (D := G) (ci := 9) (v := .int 8) (C := RX9) (T := TX9) (N := 2) hx hb hts (mm_i inlX9) hown hK.1 hP 0 rfl rfl 1 (by decide) (mm_h hts mm_w172) (fun _ h9 => h9) rfl dX9_add_22 ?_
      refine lv_iload_n hx hb dX9_add_25 rfl (lv_at hl 2 rfl) ?_
      refine lv_iload_n hx hb dX9_add_26 rfl (lv_at hl 0 rfl) ?_
      refine lv_ishr hx hb dX9_add_27 ?_
      refine lv_topi (fun v5 ev5 => ?_)
      obtain ⟨v6, ev6⟩ : ∃ y : Int32, y = v5.toInt8.toInt32 := ⟨_, rfl⟩
      refine lv_i2b hx hb dX9_add_28 ev6.symm ?_
      have rv6 : mm_rg v6 (-128) 127 := mm_i2b ev6
      refine va_bast hx hb hK.1 hP hD hS 1 0 rfl rfl (mm_in mm_k8 (by decide)) dX9_add_29 ?_
      clear hP hD hS
      clear H locs
      obtain ⟨g7, eg7⟩ : ∃ z : Nat → Int32, z = upd f_0 (8 : Int32).toNatClampNeg (vp_nar .byte v6) := ⟨_, rfl⟩
      rw [← eg7]
      intro H locs (hP : va_P G vwCl [(a_0, .inr (9, [.ref a_12, .int 8])), (a_12, .inl (cy 0, 600, .inl g7))] H) (hD : va_D A [(a_0, .inr (9, [.ref a_12, .int 8])), (a_12, .inl (cy 0, 600, .inl g7))]) hS
      have rg7 : mm_ar g7 (-128) 127 := by rw [eg7]; exact mm_ar_upd (mm_ar_wk h0 (by decide)) (mm_nb _) _
      refine lv_aload_n hx hb dX9_add_30 rfl (lv_at hl 1 rfl) ?_
      refine lv_dup hx hb dX9_add_31 rfl ?_
      refine va_get (D := G) (ci := 9) (v := .int 8) (C := RX9) (T := TX9) (N := 2) hx hb hts (mm_i inlX9) hown hK.1 hP 0 rfl rfl 1 (by decide) (mm_h hts mm_w172) (fun _ h9 => h9) rfl dX9_add_32 ?_
      refine lv_iconst (v := 1) hx hb dX9_add_35 (by decide) ?_
      refine lv_iadd hx hb dX9_add_36 ?_
      refine lv_topi (fun v8 ev8 => ?_)
      obtain rfl : v8 = 9 := ev8.trans (by decide)
      refine va_put (D := G) (ci := 9) (v := .int 9) (ty := tyX9 1) (C := RX9) (T := TX9) (N := 2) hx hb hts (mm_i inlX9) tyX9 tyX9_ok nmX9 hown hK.1 hP hD hS 0 rfl rfl 1 (by decide) (mm_h hts mm_w172) (fun _ h9 => h9) rfl (tyX9_ok 1 (by decide)) rfl rfl (Nat.le_of_ble_eq_true rfl) dX9_add_37 ?_
      clear hP hD hS
      clear H locs
      intro H locs (hP : va_P G vwCl [(a_0, .inr (9, [.ref a_12, .int 9])), (a_12, .inl (cy 0, 600, .inl g7))] H) (hD : va_D A [(a_0, .inr (9, [.ref a_12, .int 9])), (a_12, .inl (cy 0, 600, .inl g7))]) hS
      refine lv_iinc (v := 16) (lv' := [(2, .int 16), (0, .ref a_0), (1, .int i_0)]) hx hb dX9_add_40 hl (k := 0) rfl (by decide) (by decide) rfl ?_
      clear hl
      clear ls
      intro ls hl
      refine lv_goto (tgt := 3) hx hb dX9_add_43 (by decide) ?_
      refine lv_iload_n hx hb dX9_add_3 rfl (lv_at hl 0 rfl) ?_
      refine lv_if_lt (tgt := 46) hx hb dX9_add_4 (by decide) (fun c9 => ?_) (fun c9 => ?_)
      · have q10 := mm_ltL (h := (-1)) (mm_lt c9) mm_k16 mm_k0 (by decide)
        exact mm_no q10 (by decide)
      · refine lv_aload_n hx hb dX9_add_7 rfl (lv_at hl 1 rfl) ?_
        refine va_get (D := G) (ci := 9) (v := .int 9) (C := RX9) (T := TX9) (N := 2) hx hb hts (mm_i inlX9) hown hK.1 hP 0 rfl rfl 1 (by decide) (mm_h hts mm_w172) (fun _ h9 => h9) rfl dX9_add_8 ?_
        refine lv_sipush (v := 600) hx hb dX9_add_11 (by decide) ?_
        refine lv_icmp_ge (tgt := 46) hx hb dX9_add_14 (by decide) (fun c11 => ?_) (fun c11 => ?_)
        · have q12 := mm_leL (mm_le c11) mm_k600 mm_k9
          exact mm_no q12 (by decide)
        · refine lv_aload_n hx hb dX9_add_17 rfl (lv_at hl 1 rfl) ?_
          refine va_get (D := G) (ci := 9) (v := .ref a_12) (C := RX9) (T := TX9) (N := 2) hx hb hts (mm_i inlX9) hown hK.1 hP 0 rfl rfl 0 (by decide) (mm_h hts mm_w59) (fun _ h9 => h9) rfl dX9_add_18 ?_
          refine lv_aload_n hx hb dX9_add_21 rfl (lv_at hl 1 rfl) ?_
          refine va_get (D := G) (ci := 9) (v := .int 9) (C := RX9) (T := TX9) (N := 2) hx hb hts (mm_i inlX9) hown hK.1 hP 0 rfl rfl 1 (by decide) (mm_h hts mm_w172) (fun _ h9 => h9) rfl dX9_add_22 ?_
          refine lv_iload_n hx hb dX9_add_25 rfl (lv_at hl 2 rfl) ?_
          refine lv_iload_n hx hb dX9_add_26 rfl (lv_at hl 0 rfl) ?_
          refine lv_ishr hx hb dX9_add_27 ?_
          refine lv_topi (fun v13 ev13 => ?_)
          obtain ⟨v14, ev14⟩ : ∃ y : Int32, y = v13.toInt8.toInt32 := ⟨_, rfl⟩
          refine lv_i2b hx hb dX9_add_28 ev14.symm ?_
          have rv14 : mm_rg v14 (-128) 127 := mm_i2b ev14
          refine va_bast hx hb hK.1 hP hD hS 1 0 rfl rfl (mm_in mm_k9 (by decide)) dX9_add_29 ?_
          clear hP hD hS
          clear H locs
          obtain ⟨g15, eg15⟩ : ∃ z : Nat → Int32, z = upd g7 (9 : Int32).toNatClampNeg (vp_nar .byte v14) := ⟨_, rfl⟩
          rw [← eg15]
          intro H locs (hP : va_P G vwCl [(a_0, .inr (9, [.ref a_12, .int 9])), (a_12, .inl (cy 0, 600, .inl g15))] H) (hD : va_D A [(a_0, .inr (9, [.ref a_12, .int 9])), (a_12, .inl (cy 0, 600, .inl g15))]) hS
          have rg15 : mm_ar g15 (-128) 127 := by rw [eg15]; exact mm_ar_upd (mm_ar_wk rg7 (by decide)) (mm_nb _) _
          refine lv_aload_n hx hb dX9_add_30 rfl (lv_at hl 1 rfl) ?_
          refine lv_dup hx hb dX9_add_31 rfl ?_
          refine va_get (D := G) (ci := 9) (v := .int 9) (C := RX9) (T := TX9) (N := 2) hx hb hts (mm_i inlX9) hown hK.1 hP 0 rfl rfl 1 (by decide) (mm_h hts mm_w172) (fun _ h9 => h9) rfl dX9_add_32 ?_
          refine lv_iconst (v := 1) hx hb dX9_add_35 (by decide) ?_
          refine lv_iadd hx hb dX9_add_36 ?_
          refine lv_topi (fun v16 ev16 => ?_)
          obtain rfl : v16 = 10 := ev16.trans (by decide)
          refine va_put (D := G) (ci := 9) (v := .int 10) (ty := tyX9 1) (C := RX9) (T := TX9) (N := 2) hx hb hts (mm_i inlX9) tyX9 tyX9_ok nmX9 hown hK.1 hP hD hS 0 rfl rfl 1 (by decide) (mm_h hts mm_w172) (fun _ h9 => h9) rfl (tyX9_ok 1 (by decide)) rfl rfl (Nat.le_of_ble_eq_true rfl) dX9_add_37 ?_
          clear hP hD hS
          clear H locs
          intro H locs (hP : va_P G vwCl [(a_0, .inr (9, [.ref a_12, .int 10])), (a_12, .inl (cy 0, 600, .inl g15))] H) (hD : va_D A [(a_0, .inr (9, [.ref a_12, .int 10])), (a_12, .inl (cy 0, 600, .inl g15))]) hS
          refine lv_iinc (v := 8) (lv' := [(2, .int 8), (0, .ref a_0), (1, .int i_0)]) hx hb dX9_add_40 hl (k := 0) rfl (by decide) (by decide) rfl ?_
          clear hl
          clear ls
          intro ls hl
          refine lv_goto (tgt := 3) hx hb dX9_add_43 (by decide) ?_
          refine lv_iload_n hx hb dX9_add_3 rfl (lv_at hl 0 rfl) ?_
          refine lv_if_lt (tgt := 46) hx hb dX9_add_4 (by decide) (fun c17 => ?_) (fun c17 => ?_)
          · have q18 := mm_ltL (h := (-1)) (mm_lt c17) mm_k8 mm_k0 (by decide)
            exact mm_no q18 (by decide)
          · refine lv_aload_n hx hb dX9_add_7 rfl (lv_at hl 1 rfl) ?_
            refine va_get (D := G) (ci := 9) (v := .int 10) (C := RX9) (T := TX9) (N := 2) hx hb hts (mm_i inlX9) hown hK.1 hP 0 rfl rfl 1 (by decide) (mm_h hts mm_w172) (fun _ h9 => h9) rfl dX9_add_8 ?_
            refine lv_sipush (v := 600) hx hb dX9_add_11 (by decide) ?_
            refine lv_icmp_ge (tgt := 46) hx hb dX9_add_14 (by decide) (fun c19 => ?_) (fun c19 => ?_)
            · have q20 := mm_leL (mm_le c19) mm_k600 mm_k10
              exact mm_no q20 (by decide)
            · refine lv_aload_n hx hb dX9_add_17 rfl (lv_at hl 1 rfl) ?_
              refine va_get (D := G) (ci := 9) (v := .ref a_12) (C := RX9) (T := TX9) (N := 2) hx hb hts (mm_i inlX9) hown hK.1 hP 0 rfl rfl 0 (by decide) (mm_h hts mm_w59) (fun _ h9 => h9) rfl dX9_add_18 ?_
              refine lv_aload_n hx hb dX9_add_21 rfl (lv_at hl 1 rfl) ?_
              refine va_get (D := G) (ci := 9) (v := .int 10) (C := RX9) (T := TX9) (N := 2) hx hb hts (mm_i inlX9) hown hK.1 hP 0 rfl rfl 1 (by decide) (mm_h hts mm_w172) (fun _ h9 => h9) rfl dX9_add_22 ?_
              refine lv_iload_n hx hb dX9_add_25 rfl (lv_at hl 2 rfl) ?_
              refine lv_iload_n hx hb dX9_add_26 rfl (lv_at hl 0 rfl) ?_
              refine lv_ishr hx hb dX9_add_27 ?_
              refine lv_topi (fun v21 ev21 => ?_)
              obtain ⟨v22, ev22⟩ : ∃ y : Int32, y = v21.toInt8.toInt32 := ⟨_, rfl⟩
              refine lv_i2b hx hb dX9_add_28 ev22.symm ?_
              have rv22 : mm_rg v22 (-128) 127 := mm_i2b ev22
              refine va_bast hx hb hK.1 hP hD hS 1 0 rfl rfl (mm_in mm_k10 (by decide)) dX9_add_29 ?_
              clear hP hD hS
              clear H locs
              obtain ⟨g23, eg23⟩ : ∃ z : Nat → Int32, z = upd g15 (10 : Int32).toNatClampNeg (vp_nar .byte v22) := ⟨_, rfl⟩
              rw [← eg23]
              intro H locs (hP : va_P G vwCl [(a_0, .inr (9, [.ref a_12, .int 10])), (a_12, .inl (cy 0, 600, .inl g23))] H) (hD : va_D A [(a_0, .inr (9, [.ref a_12, .int 10])), (a_12, .inl (cy 0, 600, .inl g23))]) hS
              have rg23 : mm_ar g23 (-128) 127 := by rw [eg23]; exact mm_ar_upd (mm_ar_wk rg15 (by decide)) (mm_nb _) _
              refine lv_aload_n hx hb dX9_add_30 rfl (lv_at hl 1 rfl) ?_
              refine lv_dup hx hb dX9_add_31 rfl ?_
              refine va_get (D := G) (ci := 9) (v := .int 10) (C := RX9) (T := TX9) (N := 2) hx hb hts (mm_i inlX9) hown hK.1 hP 0 rfl rfl 1 (by decide) (mm_h hts mm_w172) (fun _ h9 => h9) rfl dX9_add_32 ?_
              refine lv_iconst (v := 1) hx hb dX9_add_35 (by decide) ?_
              refine lv_iadd hx hb dX9_add_36 ?_
              refine lv_topi (fun v24 ev24 => ?_)
              obtain rfl : v24 = 11 := ev24.trans (by decide)
              refine va_put (D := G) (ci := 9) (v := .int 11) (ty := tyX9 1) (C := RX9) (T := TX9) (N := 2) hx hb hts (mm_i inlX9) tyX9 tyX9_ok nmX9 hown hK.1 hP hD hS 0 rfl rfl 1 (by decide) (mm_h hts mm_w172) (fun _ h9 => h9) rfl (tyX9_ok 1 (by decide)) rfl rfl (Nat.le_of_ble_eq_true rfl) dX9_add_37 ?_
              clear hP hD hS
              clear H locs
              intro H locs (hP : va_P G vwCl [(a_0, .inr (9, [.ref a_12, .int 11])), (a_12, .inl (cy 0, 600, .inl g23))] H) (hD : va_D A [(a_0, .inr (9, [.ref a_12, .int 11])), (a_12, .inl (cy 0, 600, .inl g23))]) hS
              refine lv_iinc (v := 0) (lv' := [(2, .int 0), (0, .ref a_0), (1, .int i_0)]) hx hb dX9_add_40 hl (k := 0) rfl (by decide) (by decide) rfl ?_
              clear hl
              clear ls
              intro ls hl
              refine lv_goto (tgt := 3) hx hb dX9_add_43 (by decide) ?_
              refine lv_iload_n hx hb dX9_add_3 rfl (lv_at hl 0 rfl) ?_
              refine lv_if_lt (tgt := 46) hx hb dX9_add_4 (by decide) (fun c25 => ?_) (fun c25 => ?_)
              · have q26 := mm_ltL (h := (-1)) (mm_lt c25) mm_k0 mm_k0 (by decide)
                exact mm_no q26 (by decide)
              · refine lv_aload_n hx hb dX9_add_7 rfl (lv_at hl 1 rfl) ?_
                refine va_get (D := G) (ci := 9) (v := .int 11) (C := RX9) (T := TX9) (N := 2) hx hb hts (mm_i inlX9) hown hK.1 hP 0 rfl rfl 1 (by decide) (mm_h hts mm_w172) (fun _ h9 => h9) rfl dX9_add_8 ?_
                refine lv_sipush (v := 600) hx hb dX9_add_11 (by decide) ?_
                refine lv_icmp_ge (tgt := 46) hx hb dX9_add_14 (by decide) (fun c27 => ?_) (fun c27 => ?_)
                · have q28 := mm_leL (mm_le c27) mm_k600 mm_k11
                  exact mm_no q28 (by decide)
                · refine lv_aload_n hx hb dX9_add_17 rfl (lv_at hl 1 rfl) ?_
                  refine va_get (D := G) (ci := 9) (v := .ref a_12) (C := RX9) (T := TX9) (N := 2) hx hb hts (mm_i inlX9) hown hK.1 hP 0 rfl rfl 0 (by decide) (mm_h hts mm_w59) (fun _ h9 => h9) rfl dX9_add_18 ?_
                  refine lv_aload_n hx hb dX9_add_21 rfl (lv_at hl 1 rfl) ?_
                  refine va_get (D := G) (ci := 9) (v := .int 11) (C := RX9) (T := TX9) (N := 2) hx hb hts (mm_i inlX9) hown hK.1 hP 0 rfl rfl 1 (by decide) (mm_h hts mm_w172) (fun _ h9 => h9) rfl dX9_add_22 ?_
                  refine lv_iload_n hx hb dX9_add_25 rfl (lv_at hl 2 rfl) ?_
                  refine lv_iload_n hx hb dX9_add_26 rfl (lv_at hl 0 rfl) ?_
                  refine lv_ishr hx hb dX9_add_27 ?_
                  refine lv_topi (fun v29 ev29 => ?_)
                  obtain ⟨v30, ev30⟩ : ∃ y : Int32, y = v29.toInt8.toInt32 := ⟨_, rfl⟩
                  refine lv_i2b hx hb dX9_add_28 ev30.symm ?_
                  have rv30 : mm_rg v30 (-128) 127 := mm_i2b ev30
                  refine va_bast hx hb hK.1 hP hD hS 1 0 rfl rfl (mm_in mm_k11 (by decide)) dX9_add_29 ?_
                  clear hP hD hS
                  clear H locs
                  obtain ⟨g31, eg31⟩ : ∃ z : Nat → Int32, z = upd g23 (11 : Int32).toNatClampNeg (vp_nar .byte v30) := ⟨_, rfl⟩
                  rw [← eg31]
                  intro H locs (hP : va_P G vwCl [(a_0, .inr (9, [.ref a_12, .int 11])), (a_12, .inl (cy 0, 600, .inl g31))] H) (hD : va_D A [(a_0, .inr (9, [.ref a_12, .int 11])), (a_12, .inl (cy 0, 600, .inl g31))]) hS
                  have rg31 : mm_ar g31 (-128) 127 := by rw [eg31]; exact mm_ar_upd (mm_ar_wk rg23 (by decide)) (mm_nb _) _
                  refine lv_aload_n hx hb dX9_add_30 rfl (lv_at hl 1 rfl) ?_
                  refine lv_dup hx hb dX9_add_31 rfl ?_
                  refine va_get (D := G) (ci := 9) (v := .int 11) (C := RX9) (T := TX9) (N := 2) hx hb hts (mm_i inlX9) hown hK.1 hP 0 rfl rfl 1 (by decide) (mm_h hts mm_w172) (fun _ h9 => h9) rfl dX9_add_32 ?_
                  refine lv_iconst (v := 1) hx hb dX9_add_35 (by decide) ?_
                  refine lv_iadd hx hb dX9_add_36 ?_
                  refine lv_topi (fun v32 ev32 => ?_)
                  obtain rfl : v32 = 12 := ev32.trans (by decide)
                  refine va_put (D := G) (ci := 9) (v := .int 12) (ty := tyX9 1) (C := RX9) (T := TX9) (N := 2) hx hb hts (mm_i inlX9) tyX9 tyX9_ok nmX9 hown hK.1 hP hD hS 0 rfl rfl 1 (by decide) (mm_h hts mm_w172) (fun _ h9 => h9) rfl (tyX9_ok 1 (by decide)) rfl rfl (Nat.le_of_ble_eq_true rfl) dX9_add_37 ?_
                  clear hP hD hS
                  clear H locs
                  intro H locs (hP : va_P G vwCl [(a_0, .inr (9, [.ref a_12, .int 12])), (a_12, .inl (cy 0, 600, .inl g31))] H) (hD : va_D A [(a_0, .inr (9, [.ref a_12, .int 12])), (a_12, .inl (cy 0, 600, .inl g31))]) hS
                  refine lv_iinc (v := (-8)) (lv' := [(2, .int (-8)), (0, .ref a_0), (1, .int i_0)]) hx hb dX9_add_40 hl (k := 0) rfl (by decide) (by decide) rfl ?_
                  clear hl
                  clear ls
                  intro ls hl
                  refine lv_goto (tgt := 3) hx hb dX9_add_43 (by decide) ?_
                  refine lv_iload_n hx hb dX9_add_3 rfl (lv_at hl 0 rfl) ?_
                  refine lv_if_lt (tgt := 46) hx hb dX9_add_4 (by decide) (fun c33 => ?_) (fun c33 => ?_)
                  · subst hAe
                    rw [hQ]
                    exact W.vret hx hb hr (fun t ht hW => ⟨⟨g31, rfl, rg31, by rw [ht]; exact hP, hK.warm hW, hD⟩, hS.F ht⟩) hS.2.2 dX9_add_46
                  · have q34 := mm_leL (mm_nlt c33) mm_k0 mm_km8
                    exact mm_no q34 (by decide)

set_option maxHeartbeats 4000000 in
set_option maxRecDepth 100000 in
theorem K17_X9_add (l : Launch) (G : va_G) (cy : Nat → ClassId) (sz : Nat) (a_0 : Nat) (i_0 : Int32) (a_12 : Nat) (f_0 : Nat → Int32) (h0 : mm_ar f_0 (-128) 127)  : mm_CV l yX9_add (mm_ws yX9_add cX9_add 3 (none)) ({ frames := 0, cells := 0, slots := 0, locals := 0 } : Room) G cy sz [(a_0, .inr (9, [.ref a_12, .int 12])), (a_12, .inl (cy 0, 600, .inl f_0))] [.ref a_0, .int i_0] (fun u : (Nat → Int32) => [(a_0, .inr (9, [.ref a_12, .int 16])), (a_12, .inl (cy 0, 600, .inl u))]) (fun u : (Nat → Int32) => mm_ar u (-128) 127) 0 0 := by
  refine mm_begin (lv := [(0, .ref a_0), (1, .int i_0)]) (by decide) (Nat.le_of_ble_eq_true rfl) rfl ?_
  intro p e s m below meth c A ls R args Q H locs hRe hQ hAe hx hb hr hlocks hml hown hnm hts hsz hA hS hP hK hD hl
  have hRf : R.frames = 0 := by rw [hRe]
  have hRl : R.locals = 0 := by rw [hRe]
  have hRc : R.cells = 0 := by rw [hRe]
  have hRs : R.slots = 0 := by rw [hRe]
  refine lv_bipush (v := 24) hx hb dX9_add_0 (by decide) ?_
  refine lv_istore_n (lv' := [(2, .int 24), (0, .ref a_0), (1, .int i_0)]) hx hb dX9_add_2 rfl hl (by decide) rfl ?_
  clear hl
  clear ls
  intro ls hl
  refine lv_iload_n hx hb dX9_add_3 rfl (lv_at hl 0 rfl) ?_
  refine lv_if_lt (tgt := 46) hx hb dX9_add_4 (by decide) (fun c1 => ?_) (fun c1 => ?_)
  · have q2 := mm_ltL (h := (-1)) (mm_lt c1) mm_k24 mm_k0 (by decide)
    exact mm_no q2 (by decide)
  · refine lv_aload_n hx hb dX9_add_7 rfl (lv_at hl 1 rfl) ?_
    refine va_get (D := G) (ci := 9) (v := .int 12) (C := RX9) (T := TX9) (N := 2) hx hb hts (mm_i inlX9) hown hK.1 hP 0 rfl rfl 1 (by decide) (mm_h hts mm_w172) (fun _ h9 => h9) rfl dX9_add_8 ?_
    refine lv_sipush (v := 600) hx hb dX9_add_11 (by decide) ?_
    refine lv_icmp_ge (tgt := 46) hx hb dX9_add_14 (by decide) (fun c3 => ?_) (fun c3 => ?_)
    · have q4 := mm_leL (mm_le c3) mm_k600 mm_k12
      exact mm_no q4 (by decide)
    · refine lv_aload_n hx hb dX9_add_17 rfl (lv_at hl 1 rfl) ?_
      refine va_get (D := G) (ci := 9) (v := .ref a_12) (C := RX9) (T := TX9) (N := 2) hx hb hts (mm_i inlX9) hown hK.1 hP 0 rfl rfl 0 (by decide) (mm_h hts mm_w59) (fun _ h9 => h9) rfl dX9_add_18 ?_
      refine lv_aload_n hx hb dX9_add_21 rfl (lv_at hl 1 rfl) ?_
      refine va_get (D := G) (ci := 9) (v := .int 12) (C := RX9) (T := TX9) (N := 2) hx hb hts (mm_i inlX9) hown hK.1 hP 0 rfl rfl 1 (by decide) (mm_h hts mm_w172) (fun _ h9 => h9) rfl dX9_add_22 ?_
      refine lv_iload_n hx hb dX9_add_25 rfl (lv_at hl 2 rfl) ?_
      refine lv_iload_n hx hb dX9_add_26 rfl (lv_at hl 0 rfl) ?_
      refine lv_ishr hx hb dX9_add_27 ?_
      refine lv_topi (fun v5 ev5 => ?_)
      obtain ⟨v6, ev6⟩ : ∃ y : Int32, y = v5.toInt8.toInt32 := ⟨_, rfl⟩
      refine lv_i2b hx hb dX9_add_28 ev6.symm ?_
      have rv6 : mm_rg v6 (-128) 127 := mm_i2b ev6
      refine va_bast hx hb hK.1 hP hD hS 1 0 rfl rfl (mm_in mm_k12 (by decide)) dX9_add_29 ?_
      clear hP hD hS
      clear H locs
      obtain ⟨g7, eg7⟩ : ∃ z : Nat → Int32, z = upd f_0 (12 : Int32).toNatClampNeg (vp_nar .byte v6) := ⟨_, rfl⟩
      rw [← eg7]
      intro H locs (hP : va_P G vwCl [(a_0, .inr (9, [.ref a_12, .int 12])), (a_12, .inl (cy 0, 600, .inl g7))] H) (hD : va_D A [(a_0, .inr (9, [.ref a_12, .int 12])), (a_12, .inl (cy 0, 600, .inl g7))]) hS
      have rg7 : mm_ar g7 (-128) 127 := by rw [eg7]; exact mm_ar_upd (mm_ar_wk h0 (by decide)) (mm_nb _) _
      refine lv_aload_n hx hb dX9_add_30 rfl (lv_at hl 1 rfl) ?_
      refine lv_dup hx hb dX9_add_31 rfl ?_
      refine va_get (D := G) (ci := 9) (v := .int 12) (C := RX9) (T := TX9) (N := 2) hx hb hts (mm_i inlX9) hown hK.1 hP 0 rfl rfl 1 (by decide) (mm_h hts mm_w172) (fun _ h9 => h9) rfl dX9_add_32 ?_
      refine lv_iconst (v := 1) hx hb dX9_add_35 (by decide) ?_
      refine lv_iadd hx hb dX9_add_36 ?_
      refine lv_topi (fun v8 ev8 => ?_)
      obtain rfl : v8 = 13 := ev8.trans (by decide)
      refine va_put (D := G) (ci := 9) (v := .int 13) (ty := tyX9 1) (C := RX9) (T := TX9) (N := 2) hx hb hts (mm_i inlX9) tyX9 tyX9_ok nmX9 hown hK.1 hP hD hS 0 rfl rfl 1 (by decide) (mm_h hts mm_w172) (fun _ h9 => h9) rfl (tyX9_ok 1 (by decide)) rfl rfl (Nat.le_of_ble_eq_true rfl) dX9_add_37 ?_
      clear hP hD hS
      clear H locs
      intro H locs (hP : va_P G vwCl [(a_0, .inr (9, [.ref a_12, .int 13])), (a_12, .inl (cy 0, 600, .inl g7))] H) (hD : va_D A [(a_0, .inr (9, [.ref a_12, .int 13])), (a_12, .inl (cy 0, 600, .inl g7))]) hS
      refine lv_iinc (v := 16) (lv' := [(2, .int 16), (0, .ref a_0), (1, .int i_0)]) hx hb dX9_add_40 hl (k := 0) rfl (by decide) (by decide) rfl ?_
      clear hl
      clear ls
      intro ls hl
      refine lv_goto (tgt := 3) hx hb dX9_add_43 (by decide) ?_
      refine lv_iload_n hx hb dX9_add_3 rfl (lv_at hl 0 rfl) ?_
      refine lv_if_lt (tgt := 46) hx hb dX9_add_4 (by decide) (fun c9 => ?_) (fun c9 => ?_)
      · have q10 := mm_ltL (h := (-1)) (mm_lt c9) mm_k16 mm_k0 (by decide)
        exact mm_no q10 (by decide)
      · refine lv_aload_n hx hb dX9_add_7 rfl (lv_at hl 1 rfl) ?_
        refine va_get (D := G) (ci := 9) (v := .int 13) (C := RX9) (T := TX9) (N := 2) hx hb hts (mm_i inlX9) hown hK.1 hP 0 rfl rfl 1 (by decide) (mm_h hts mm_w172) (fun _ h9 => h9) rfl dX9_add_8 ?_
        refine lv_sipush (v := 600) hx hb dX9_add_11 (by decide) ?_
        refine lv_icmp_ge (tgt := 46) hx hb dX9_add_14 (by decide) (fun c11 => ?_) (fun c11 => ?_)
        · have q12 := mm_leL (mm_le c11) mm_k600 mm_k13
          exact mm_no q12 (by decide)
        · refine lv_aload_n hx hb dX9_add_17 rfl (lv_at hl 1 rfl) ?_
          refine va_get (D := G) (ci := 9) (v := .ref a_12) (C := RX9) (T := TX9) (N := 2) hx hb hts (mm_i inlX9) hown hK.1 hP 0 rfl rfl 0 (by decide) (mm_h hts mm_w59) (fun _ h9 => h9) rfl dX9_add_18 ?_
          refine lv_aload_n hx hb dX9_add_21 rfl (lv_at hl 1 rfl) ?_
          refine va_get (D := G) (ci := 9) (v := .int 13) (C := RX9) (T := TX9) (N := 2) hx hb hts (mm_i inlX9) hown hK.1 hP 0 rfl rfl 1 (by decide) (mm_h hts mm_w172) (fun _ h9 => h9) rfl dX9_add_22 ?_
          refine lv_iload_n hx hb dX9_add_25 rfl (lv_at hl 2 rfl) ?_
          refine lv_iload_n hx hb dX9_add_26 rfl (lv_at hl 0 rfl) ?_
          refine lv_ishr hx hb dX9_add_27 ?_
          refine lv_topi (fun v13 ev13 => ?_)
          obtain ⟨v14, ev14⟩ : ∃ y : Int32, y = v13.toInt8.toInt32 := ⟨_, rfl⟩
          refine lv_i2b hx hb dX9_add_28 ev14.symm ?_
          have rv14 : mm_rg v14 (-128) 127 := mm_i2b ev14
          refine va_bast hx hb hK.1 hP hD hS 1 0 rfl rfl (mm_in mm_k13 (by decide)) dX9_add_29 ?_
          clear hP hD hS
          clear H locs
          obtain ⟨g15, eg15⟩ : ∃ z : Nat → Int32, z = upd g7 (13 : Int32).toNatClampNeg (vp_nar .byte v14) := ⟨_, rfl⟩
          rw [← eg15]
          intro H locs (hP : va_P G vwCl [(a_0, .inr (9, [.ref a_12, .int 13])), (a_12, .inl (cy 0, 600, .inl g15))] H) (hD : va_D A [(a_0, .inr (9, [.ref a_12, .int 13])), (a_12, .inl (cy 0, 600, .inl g15))]) hS
          have rg15 : mm_ar g15 (-128) 127 := by rw [eg15]; exact mm_ar_upd (mm_ar_wk rg7 (by decide)) (mm_nb _) _
          refine lv_aload_n hx hb dX9_add_30 rfl (lv_at hl 1 rfl) ?_
          refine lv_dup hx hb dX9_add_31 rfl ?_
          refine va_get (D := G) (ci := 9) (v := .int 13) (C := RX9) (T := TX9) (N := 2) hx hb hts (mm_i inlX9) hown hK.1 hP 0 rfl rfl 1 (by decide) (mm_h hts mm_w172) (fun _ h9 => h9) rfl dX9_add_32 ?_
          refine lv_iconst (v := 1) hx hb dX9_add_35 (by decide) ?_
          refine lv_iadd hx hb dX9_add_36 ?_
          refine lv_topi (fun v16 ev16 => ?_)
          obtain rfl : v16 = 14 := ev16.trans (by decide)
          refine va_put (D := G) (ci := 9) (v := .int 14) (ty := tyX9 1) (C := RX9) (T := TX9) (N := 2) hx hb hts (mm_i inlX9) tyX9 tyX9_ok nmX9 hown hK.1 hP hD hS 0 rfl rfl 1 (by decide) (mm_h hts mm_w172) (fun _ h9 => h9) rfl (tyX9_ok 1 (by decide)) rfl rfl (Nat.le_of_ble_eq_true rfl) dX9_add_37 ?_
          clear hP hD hS
          clear H locs
          intro H locs (hP : va_P G vwCl [(a_0, .inr (9, [.ref a_12, .int 14])), (a_12, .inl (cy 0, 600, .inl g15))] H) (hD : va_D A [(a_0, .inr (9, [.ref a_12, .int 14])), (a_12, .inl (cy 0, 600, .inl g15))]) hS
          refine lv_iinc (v := 8) (lv' := [(2, .int 8), (0, .ref a_0), (1, .int i_0)]) hx hb dX9_add_40 hl (k := 0) rfl (by decide) (by decide) rfl ?_
          clear hl
          clear ls
          intro ls hl
          refine lv_goto (tgt := 3) hx hb dX9_add_43 (by decide) ?_
          refine lv_iload_n hx hb dX9_add_3 rfl (lv_at hl 0 rfl) ?_
          refine lv_if_lt (tgt := 46) hx hb dX9_add_4 (by decide) (fun c17 => ?_) (fun c17 => ?_)
          · have q18 := mm_ltL (h := (-1)) (mm_lt c17) mm_k8 mm_k0 (by decide)
            exact mm_no q18 (by decide)
          · refine lv_aload_n hx hb dX9_add_7 rfl (lv_at hl 1 rfl) ?_
            refine va_get (D := G) (ci := 9) (v := .int 14) (C := RX9) (T := TX9) (N := 2) hx hb hts (mm_i inlX9) hown hK.1 hP 0 rfl rfl 1 (by decide) (mm_h hts mm_w172) (fun _ h9 => h9) rfl dX9_add_8 ?_
            refine lv_sipush (v := 600) hx hb dX9_add_11 (by decide) ?_
            refine lv_icmp_ge (tgt := 46) hx hb dX9_add_14 (by decide) (fun c19 => ?_) (fun c19 => ?_)
            · have q20 := mm_leL (mm_le c19) mm_k600 mm_k14
              exact mm_no q20 (by decide)
            · refine lv_aload_n hx hb dX9_add_17 rfl (lv_at hl 1 rfl) ?_
              refine va_get (D := G) (ci := 9) (v := .ref a_12) (C := RX9) (T := TX9) (N := 2) hx hb hts (mm_i inlX9) hown hK.1 hP 0 rfl rfl 0 (by decide) (mm_h hts mm_w59) (fun _ h9 => h9) rfl dX9_add_18 ?_
              refine lv_aload_n hx hb dX9_add_21 rfl (lv_at hl 1 rfl) ?_
              refine va_get (D := G) (ci := 9) (v := .int 14) (C := RX9) (T := TX9) (N := 2) hx hb hts (mm_i inlX9) hown hK.1 hP 0 rfl rfl 1 (by decide) (mm_h hts mm_w172) (fun _ h9 => h9) rfl dX9_add_22 ?_
              refine lv_iload_n hx hb dX9_add_25 rfl (lv_at hl 2 rfl) ?_
              refine lv_iload_n hx hb dX9_add_26 rfl (lv_at hl 0 rfl) ?_
              refine lv_ishr hx hb dX9_add_27 ?_
              refine lv_topi (fun v21 ev21 => ?_)
              obtain ⟨v22, ev22⟩ : ∃ y : Int32, y = v21.toInt8.toInt32 := ⟨_, rfl⟩
              refine lv_i2b hx hb dX9_add_28 ev22.symm ?_
              have rv22 : mm_rg v22 (-128) 127 := mm_i2b ev22
              refine va_bast hx hb hK.1 hP hD hS 1 0 rfl rfl (mm_in mm_k14 (by decide)) dX9_add_29 ?_
              clear hP hD hS
              clear H locs
              obtain ⟨g23, eg23⟩ : ∃ z : Nat → Int32, z = upd g15 (14 : Int32).toNatClampNeg (vp_nar .byte v22) := ⟨_, rfl⟩
              rw [← eg23]
              intro H locs (hP : va_P G vwCl [(a_0, .inr (9, [.ref a_12, .int 14])), (a_12, .inl (cy 0, 600, .inl g23))] H) (hD : va_D A [(a_0, .inr (9, [.ref a_12, .int 14])), (a_12, .inl (cy 0, 600, .inl g23))]) hS
              have rg23 : mm_ar g23 (-128) 127 := by rw [eg23]; exact mm_ar_upd (mm_ar_wk rg15 (by decide)) (mm_nb _) _
              refine lv_aload_n hx hb dX9_add_30 rfl (lv_at hl 1 rfl) ?_
              refine lv_dup hx hb dX9_add_31 rfl ?_
              refine va_get (D := G) (ci := 9) (v := .int 14) (C := RX9) (T := TX9) (N := 2) hx hb hts (mm_i inlX9) hown hK.1 hP 0 rfl rfl 1 (by decide) (mm_h hts mm_w172) (fun _ h9 => h9) rfl dX9_add_32 ?_
              refine lv_iconst (v := 1) hx hb dX9_add_35 (by decide) ?_
              refine lv_iadd hx hb dX9_add_36 ?_
              refine lv_topi (fun v24 ev24 => ?_)
              obtain rfl : v24 = 15 := ev24.trans (by decide)
              refine va_put (D := G) (ci := 9) (v := .int 15) (ty := tyX9 1) (C := RX9) (T := TX9) (N := 2) hx hb hts (mm_i inlX9) tyX9 tyX9_ok nmX9 hown hK.1 hP hD hS 0 rfl rfl 1 (by decide) (mm_h hts mm_w172) (fun _ h9 => h9) rfl (tyX9_ok 1 (by decide)) rfl rfl (Nat.le_of_ble_eq_true rfl) dX9_add_37 ?_
              clear hP hD hS
              clear H locs
              intro H locs (hP : va_P G vwCl [(a_0, .inr (9, [.ref a_12, .int 15])), (a_12, .inl (cy 0, 600, .inl g23))] H) (hD : va_D A [(a_0, .inr (9, [.ref a_12, .int 15])), (a_12, .inl (cy 0, 600, .inl g23))]) hS
              refine lv_iinc (v := 0) (lv' := [(2, .int 0), (0, .ref a_0), (1, .int i_0)]) hx hb dX9_add_40 hl (k := 0) rfl (by decide) (by decide) rfl ?_
              clear hl
              clear ls
              intro ls hl
              refine lv_goto (tgt := 3) hx hb dX9_add_43 (by decide) ?_
              refine lv_iload_n hx hb dX9_add_3 rfl (lv_at hl 0 rfl) ?_
              refine lv_if_lt (tgt := 46) hx hb dX9_add_4 (by decide) (fun c25 => ?_) (fun c25 => ?_)
              · have q26 := mm_ltL (h := (-1)) (mm_lt c25) mm_k0 mm_k0 (by decide)
                exact mm_no q26 (by decide)
              · refine lv_aload_n hx hb dX9_add_7 rfl (lv_at hl 1 rfl) ?_
                refine va_get (D := G) (ci := 9) (v := .int 15) (C := RX9) (T := TX9) (N := 2) hx hb hts (mm_i inlX9) hown hK.1 hP 0 rfl rfl 1 (by decide) (mm_h hts mm_w172) (fun _ h9 => h9) rfl dX9_add_8 ?_
                refine lv_sipush (v := 600) hx hb dX9_add_11 (by decide) ?_
                refine lv_icmp_ge (tgt := 46) hx hb dX9_add_14 (by decide) (fun c27 => ?_) (fun c27 => ?_)
                · have q28 := mm_leL (mm_le c27) mm_k600 mm_k15
                  exact mm_no q28 (by decide)
                · refine lv_aload_n hx hb dX9_add_17 rfl (lv_at hl 1 rfl) ?_
                  refine va_get (D := G) (ci := 9) (v := .ref a_12) (C := RX9) (T := TX9) (N := 2) hx hb hts (mm_i inlX9) hown hK.1 hP 0 rfl rfl 0 (by decide) (mm_h hts mm_w59) (fun _ h9 => h9) rfl dX9_add_18 ?_
                  refine lv_aload_n hx hb dX9_add_21 rfl (lv_at hl 1 rfl) ?_
                  refine va_get (D := G) (ci := 9) (v := .int 15) (C := RX9) (T := TX9) (N := 2) hx hb hts (mm_i inlX9) hown hK.1 hP 0 rfl rfl 1 (by decide) (mm_h hts mm_w172) (fun _ h9 => h9) rfl dX9_add_22 ?_
                  refine lv_iload_n hx hb dX9_add_25 rfl (lv_at hl 2 rfl) ?_
                  refine lv_iload_n hx hb dX9_add_26 rfl (lv_at hl 0 rfl) ?_
                  refine lv_ishr hx hb dX9_add_27 ?_
                  refine lv_topi (fun v29 ev29 => ?_)
                  obtain ⟨v30, ev30⟩ : ∃ y : Int32, y = v29.toInt8.toInt32 := ⟨_, rfl⟩
                  refine lv_i2b hx hb dX9_add_28 ev30.symm ?_
                  have rv30 : mm_rg v30 (-128) 127 := mm_i2b ev30
                  refine va_bast hx hb hK.1 hP hD hS 1 0 rfl rfl (mm_in mm_k15 (by decide)) dX9_add_29 ?_
                  clear hP hD hS
                  clear H locs
                  obtain ⟨g31, eg31⟩ : ∃ z : Nat → Int32, z = upd g23 (15 : Int32).toNatClampNeg (vp_nar .byte v30) := ⟨_, rfl⟩
                  rw [← eg31]
                  intro H locs (hP : va_P G vwCl [(a_0, .inr (9, [.ref a_12, .int 15])), (a_12, .inl (cy 0, 600, .inl g31))] H) (hD : va_D A [(a_0, .inr (9, [.ref a_12, .int 15])), (a_12, .inl (cy 0, 600, .inl g31))]) hS
                  have rg31 : mm_ar g31 (-128) 127 := by rw [eg31]; exact mm_ar_upd (mm_ar_wk rg23 (by decide)) (mm_nb _) _
                  refine lv_aload_n hx hb dX9_add_30 rfl (lv_at hl 1 rfl) ?_
                  refine lv_dup hx hb dX9_add_31 rfl ?_
                  refine va_get (D := G) (ci := 9) (v := .int 15) (C := RX9) (T := TX9) (N := 2) hx hb hts (mm_i inlX9) hown hK.1 hP 0 rfl rfl 1 (by decide) (mm_h hts mm_w172) (fun _ h9 => h9) rfl dX9_add_32 ?_
                  refine lv_iconst (v := 1) hx hb dX9_add_35 (by decide) ?_
                  refine lv_iadd hx hb dX9_add_36 ?_
                  refine lv_topi (fun v32 ev32 => ?_)
                  obtain rfl : v32 = 16 := ev32.trans (by decide)
                  refine va_put (D := G) (ci := 9) (v := .int 16) (ty := tyX9 1) (C := RX9) (T := TX9) (N := 2) hx hb hts (mm_i inlX9) tyX9 tyX9_ok nmX9 hown hK.1 hP hD hS 0 rfl rfl 1 (by decide) (mm_h hts mm_w172) (fun _ h9 => h9) rfl (tyX9_ok 1 (by decide)) rfl rfl (Nat.le_of_ble_eq_true rfl) dX9_add_37 ?_
                  clear hP hD hS
                  clear H locs
                  intro H locs (hP : va_P G vwCl [(a_0, .inr (9, [.ref a_12, .int 16])), (a_12, .inl (cy 0, 600, .inl g31))] H) (hD : va_D A [(a_0, .inr (9, [.ref a_12, .int 16])), (a_12, .inl (cy 0, 600, .inl g31))]) hS
                  refine lv_iinc (v := (-8)) (lv' := [(2, .int (-8)), (0, .ref a_0), (1, .int i_0)]) hx hb dX9_add_40 hl (k := 0) rfl (by decide) (by decide) rfl ?_
                  clear hl
                  clear ls
                  intro ls hl
                  refine lv_goto (tgt := 3) hx hb dX9_add_43 (by decide) ?_
                  refine lv_iload_n hx hb dX9_add_3 rfl (lv_at hl 0 rfl) ?_
                  refine lv_if_lt (tgt := 46) hx hb dX9_add_4 (by decide) (fun c33 => ?_) (fun c33 => ?_)
                  · subst hAe
                    rw [hQ]
                    exact W.vret hx hb hr (fun t ht hW => ⟨⟨g31, rfl, rg31, by rw [ht]; exact hP, hK.warm hW, hD⟩, hS.F ht⟩) hS.2.2 dX9_add_46
                  · have q34 := mm_leL (mm_nlt c33) mm_k0 mm_km8
                    exact mm_no q34 (by decide)

set_option maxHeartbeats 4000000 in
set_option maxRecDepth 100000 in
theorem K18_X9_add (l : Launch) (G : va_G) (cy : Nat → ClassId) (sz : Nat) (a_0 : Nat) (i_0 : Int32) (a_12 : Nat) (f_0 : Nat → Int32) (h0 : mm_ar f_0 (-128) 127)  : mm_CV l yX9_add (mm_ws yX9_add cX9_add 3 (none)) ({ frames := 0, cells := 0, slots := 0, locals := 0 } : Room) G cy sz [(a_0, .inr (9, [.ref a_12, .int 16])), (a_12, .inl (cy 0, 600, .inl f_0))] [.ref a_0, .int i_0] (fun u : (Nat → Int32) => [(a_0, .inr (9, [.ref a_12, .int 20])), (a_12, .inl (cy 0, 600, .inl u))]) (fun u : (Nat → Int32) => mm_ar u (-128) 127) 0 0 := by
  refine mm_begin (lv := [(0, .ref a_0), (1, .int i_0)]) (by decide) (Nat.le_of_ble_eq_true rfl) rfl ?_
  intro p e s m below meth c A ls R args Q H locs hRe hQ hAe hx hb hr hlocks hml hown hnm hts hsz hA hS hP hK hD hl
  have hRf : R.frames = 0 := by rw [hRe]
  have hRl : R.locals = 0 := by rw [hRe]
  have hRc : R.cells = 0 := by rw [hRe]
  have hRs : R.slots = 0 := by rw [hRe]
  refine lv_bipush (v := 24) hx hb dX9_add_0 (by decide) ?_
  refine lv_istore_n (lv' := [(2, .int 24), (0, .ref a_0), (1, .int i_0)]) hx hb dX9_add_2 rfl hl (by decide) rfl ?_
  clear hl
  clear ls
  intro ls hl
  refine lv_iload_n hx hb dX9_add_3 rfl (lv_at hl 0 rfl) ?_
  refine lv_if_lt (tgt := 46) hx hb dX9_add_4 (by decide) (fun c1 => ?_) (fun c1 => ?_)
  · have q2 := mm_ltL (h := (-1)) (mm_lt c1) mm_k24 mm_k0 (by decide)
    exact mm_no q2 (by decide)
  · refine lv_aload_n hx hb dX9_add_7 rfl (lv_at hl 1 rfl) ?_
    refine va_get (D := G) (ci := 9) (v := .int 16) (C := RX9) (T := TX9) (N := 2) hx hb hts (mm_i inlX9) hown hK.1 hP 0 rfl rfl 1 (by decide) (mm_h hts mm_w172) (fun _ h9 => h9) rfl dX9_add_8 ?_
    refine lv_sipush (v := 600) hx hb dX9_add_11 (by decide) ?_
    refine lv_icmp_ge (tgt := 46) hx hb dX9_add_14 (by decide) (fun c3 => ?_) (fun c3 => ?_)
    · have q4 := mm_leL (mm_le c3) mm_k600 mm_k16
      exact mm_no q4 (by decide)
    · refine lv_aload_n hx hb dX9_add_17 rfl (lv_at hl 1 rfl) ?_
      refine va_get (D := G) (ci := 9) (v := .ref a_12) (C := RX9) (T := TX9) (N := 2) hx hb hts (mm_i inlX9) hown hK.1 hP 0 rfl rfl 0 (by decide) (mm_h hts mm_w59) (fun _ h9 => h9) rfl dX9_add_18 ?_
      refine lv_aload_n hx hb dX9_add_21 rfl (lv_at hl 1 rfl) ?_
      refine va_get (D := G) (ci := 9) (v := .int 16) (C := RX9) (T := TX9) (N := 2) hx hb hts (mm_i inlX9) hown hK.1 hP 0 rfl rfl 1 (by decide) (mm_h hts mm_w172) (fun _ h9 => h9) rfl dX9_add_22 ?_
      refine lv_iload_n hx hb dX9_add_25 rfl (lv_at hl 2 rfl) ?_
      refine lv_iload_n hx hb dX9_add_26 rfl (lv_at hl 0 rfl) ?_
      refine lv_ishr hx hb dX9_add_27 ?_
      refine lv_topi (fun v5 ev5 => ?_)
      obtain ⟨v6, ev6⟩ : ∃ y : Int32, y = v5.toInt8.toInt32 := ⟨_, rfl⟩
      refine lv_i2b hx hb dX9_add_28 ev6.symm ?_
      have rv6 : mm_rg v6 (-128) 127 := mm_i2b ev6
      refine va_bast hx hb hK.1 hP hD hS 1 0 rfl rfl (mm_in mm_k16 (by decide)) dX9_add_29 ?_
      clear hP hD hS
      clear H locs
      obtain ⟨g7, eg7⟩ : ∃ z : Nat → Int32, z = upd f_0 (16 : Int32).toNatClampNeg (vp_nar .byte v6) := ⟨_, rfl⟩
      rw [← eg7]
      intro H locs (hP : va_P G vwCl [(a_0, .inr (9, [.ref a_12, .int 16])), (a_12, .inl (cy 0, 600, .inl g7))] H) (hD : va_D A [(a_0, .inr (9, [.ref a_12, .int 16])), (a_12, .inl (cy 0, 600, .inl g7))]) hS
      have rg7 : mm_ar g7 (-128) 127 := by rw [eg7]; exact mm_ar_upd (mm_ar_wk h0 (by decide)) (mm_nb _) _
      refine lv_aload_n hx hb dX9_add_30 rfl (lv_at hl 1 rfl) ?_
      refine lv_dup hx hb dX9_add_31 rfl ?_
      refine va_get (D := G) (ci := 9) (v := .int 16) (C := RX9) (T := TX9) (N := 2) hx hb hts (mm_i inlX9) hown hK.1 hP 0 rfl rfl 1 (by decide) (mm_h hts mm_w172) (fun _ h9 => h9) rfl dX9_add_32 ?_
      refine lv_iconst (v := 1) hx hb dX9_add_35 (by decide) ?_
      refine lv_iadd hx hb dX9_add_36 ?_
      refine lv_topi (fun v8 ev8 => ?_)
      obtain rfl : v8 = 17 := ev8.trans (by decide)
      refine va_put (D := G) (ci := 9) (v := .int 17) (ty := tyX9 1) (C := RX9) (T := TX9) (N := 2) hx hb hts (mm_i inlX9) tyX9 tyX9_ok nmX9 hown hK.1 hP hD hS 0 rfl rfl 1 (by decide) (mm_h hts mm_w172) (fun _ h9 => h9) rfl (tyX9_ok 1 (by decide)) rfl rfl (Nat.le_of_ble_eq_true rfl) dX9_add_37 ?_
      clear hP hD hS
      clear H locs
      intro H locs (hP : va_P G vwCl [(a_0, .inr (9, [.ref a_12, .int 17])), (a_12, .inl (cy 0, 600, .inl g7))] H) (hD : va_D A [(a_0, .inr (9, [.ref a_12, .int 17])), (a_12, .inl (cy 0, 600, .inl g7))]) hS
      refine lv_iinc (v := 16) (lv' := [(2, .int 16), (0, .ref a_0), (1, .int i_0)]) hx hb dX9_add_40 hl (k := 0) rfl (by decide) (by decide) rfl ?_
      clear hl
      clear ls
      intro ls hl
      refine lv_goto (tgt := 3) hx hb dX9_add_43 (by decide) ?_
      refine lv_iload_n hx hb dX9_add_3 rfl (lv_at hl 0 rfl) ?_
      refine lv_if_lt (tgt := 46) hx hb dX9_add_4 (by decide) (fun c9 => ?_) (fun c9 => ?_)
      · have q10 := mm_ltL (h := (-1)) (mm_lt c9) mm_k16 mm_k0 (by decide)
        exact mm_no q10 (by decide)
      · refine lv_aload_n hx hb dX9_add_7 rfl (lv_at hl 1 rfl) ?_
        refine va_get (D := G) (ci := 9) (v := .int 17) (C := RX9) (T := TX9) (N := 2) hx hb hts (mm_i inlX9) hown hK.1 hP 0 rfl rfl 1 (by decide) (mm_h hts mm_w172) (fun _ h9 => h9) rfl dX9_add_8 ?_
        refine lv_sipush (v := 600) hx hb dX9_add_11 (by decide) ?_
        refine lv_icmp_ge (tgt := 46) hx hb dX9_add_14 (by decide) (fun c11 => ?_) (fun c11 => ?_)
        · have q12 := mm_leL (mm_le c11) mm_k600 mm_k17
          exact mm_no q12 (by decide)
        · refine lv_aload_n hx hb dX9_add_17 rfl (lv_at hl 1 rfl) ?_
          refine va_get (D := G) (ci := 9) (v := .ref a_12) (C := RX9) (T := TX9) (N := 2) hx hb hts (mm_i inlX9) hown hK.1 hP 0 rfl rfl 0 (by decide) (mm_h hts mm_w59) (fun _ h9 => h9) rfl dX9_add_18 ?_
          refine lv_aload_n hx hb dX9_add_21 rfl (lv_at hl 1 rfl) ?_
          refine va_get (D := G) (ci := 9) (v := .int 17) (C := RX9) (T := TX9) (N := 2) hx hb hts (mm_i inlX9) hown hK.1 hP 0 rfl rfl 1 (by decide) (mm_h hts mm_w172) (fun _ h9 => h9) rfl dX9_add_22 ?_
          refine lv_iload_n hx hb dX9_add_25 rfl (lv_at hl 2 rfl) ?_
          refine lv_iload_n hx hb dX9_add_26 rfl (lv_at hl 0 rfl) ?_
          refine lv_ishr hx hb dX9_add_27 ?_
          refine lv_topi (fun v13 ev13 => ?_)
          obtain ⟨v14, ev14⟩ : ∃ y : Int32, y = v13.toInt8.toInt32 := ⟨_, rfl⟩
          refine lv_i2b hx hb dX9_add_28 ev14.symm ?_
          have rv14 : mm_rg v14 (-128) 127 := mm_i2b ev14
          refine va_bast hx hb hK.1 hP hD hS 1 0 rfl rfl (mm_in mm_k17 (by decide)) dX9_add_29 ?_
          clear hP hD hS
          clear H locs
          obtain ⟨g15, eg15⟩ : ∃ z : Nat → Int32, z = upd g7 (17 : Int32).toNatClampNeg (vp_nar .byte v14) := ⟨_, rfl⟩
          rw [← eg15]
          intro H locs (hP : va_P G vwCl [(a_0, .inr (9, [.ref a_12, .int 17])), (a_12, .inl (cy 0, 600, .inl g15))] H) (hD : va_D A [(a_0, .inr (9, [.ref a_12, .int 17])), (a_12, .inl (cy 0, 600, .inl g15))]) hS
          have rg15 : mm_ar g15 (-128) 127 := by rw [eg15]; exact mm_ar_upd (mm_ar_wk rg7 (by decide)) (mm_nb _) _
          refine lv_aload_n hx hb dX9_add_30 rfl (lv_at hl 1 rfl) ?_
          refine lv_dup hx hb dX9_add_31 rfl ?_
          refine va_get (D := G) (ci := 9) (v := .int 17) (C := RX9) (T := TX9) (N := 2) hx hb hts (mm_i inlX9) hown hK.1 hP 0 rfl rfl 1 (by decide) (mm_h hts mm_w172) (fun _ h9 => h9) rfl dX9_add_32 ?_
          refine lv_iconst (v := 1) hx hb dX9_add_35 (by decide) ?_
          refine lv_iadd hx hb dX9_add_36 ?_
          refine lv_topi (fun v16 ev16 => ?_)
          obtain rfl : v16 = 18 := ev16.trans (by decide)
          refine va_put (D := G) (ci := 9) (v := .int 18) (ty := tyX9 1) (C := RX9) (T := TX9) (N := 2) hx hb hts (mm_i inlX9) tyX9 tyX9_ok nmX9 hown hK.1 hP hD hS 0 rfl rfl 1 (by decide) (mm_h hts mm_w172) (fun _ h9 => h9) rfl (tyX9_ok 1 (by decide)) rfl rfl (Nat.le_of_ble_eq_true rfl) dX9_add_37 ?_
          clear hP hD hS
          clear H locs
          intro H locs (hP : va_P G vwCl [(a_0, .inr (9, [.ref a_12, .int 18])), (a_12, .inl (cy 0, 600, .inl g15))] H) (hD : va_D A [(a_0, .inr (9, [.ref a_12, .int 18])), (a_12, .inl (cy 0, 600, .inl g15))]) hS
          refine lv_iinc (v := 8) (lv' := [(2, .int 8), (0, .ref a_0), (1, .int i_0)]) hx hb dX9_add_40 hl (k := 0) rfl (by decide) (by decide) rfl ?_
          clear hl
          clear ls
          intro ls hl
          refine lv_goto (tgt := 3) hx hb dX9_add_43 (by decide) ?_
          refine lv_iload_n hx hb dX9_add_3 rfl (lv_at hl 0 rfl) ?_
          refine lv_if_lt (tgt := 46) hx hb dX9_add_4 (by decide) (fun c17 => ?_) (fun c17 => ?_)
          · have q18 := mm_ltL (h := (-1)) (mm_lt c17) mm_k8 mm_k0 (by decide)
            exact mm_no q18 (by decide)
          · refine lv_aload_n hx hb dX9_add_7 rfl (lv_at hl 1 rfl) ?_
            refine va_get (D := G) (ci := 9) (v := .int 18) (C := RX9) (T := TX9) (N := 2) hx hb hts (mm_i inlX9) hown hK.1 hP 0 rfl rfl 1 (by decide) (mm_h hts mm_w172) (fun _ h9 => h9) rfl dX9_add_8 ?_
            refine lv_sipush (v := 600) hx hb dX9_add_11 (by decide) ?_
            refine lv_icmp_ge (tgt := 46) hx hb dX9_add_14 (by decide) (fun c19 => ?_) (fun c19 => ?_)
            · have q20 := mm_leL (mm_le c19) mm_k600 mm_k18
              exact mm_no q20 (by decide)
            · refine lv_aload_n hx hb dX9_add_17 rfl (lv_at hl 1 rfl) ?_
              refine va_get (D := G) (ci := 9) (v := .ref a_12) (C := RX9) (T := TX9) (N := 2) hx hb hts (mm_i inlX9) hown hK.1 hP 0 rfl rfl 0 (by decide) (mm_h hts mm_w59) (fun _ h9 => h9) rfl dX9_add_18 ?_
              refine lv_aload_n hx hb dX9_add_21 rfl (lv_at hl 1 rfl) ?_
              refine va_get (D := G) (ci := 9) (v := .int 18) (C := RX9) (T := TX9) (N := 2) hx hb hts (mm_i inlX9) hown hK.1 hP 0 rfl rfl 1 (by decide) (mm_h hts mm_w172) (fun _ h9 => h9) rfl dX9_add_22 ?_
              refine lv_iload_n hx hb dX9_add_25 rfl (lv_at hl 2 rfl) ?_
              refine lv_iload_n hx hb dX9_add_26 rfl (lv_at hl 0 rfl) ?_
              refine lv_ishr hx hb dX9_add_27 ?_
              refine lv_topi (fun v21 ev21 => ?_)
              obtain ⟨v22, ev22⟩ : ∃ y : Int32, y = v21.toInt8.toInt32 := ⟨_, rfl⟩
              refine lv_i2b hx hb dX9_add_28 ev22.symm ?_
              have rv22 : mm_rg v22 (-128) 127 := mm_i2b ev22
              refine va_bast hx hb hK.1 hP hD hS 1 0 rfl rfl (mm_in mm_k18 (by decide)) dX9_add_29 ?_
              clear hP hD hS
              clear H locs
              obtain ⟨g23, eg23⟩ : ∃ z : Nat → Int32, z = upd g15 (18 : Int32).toNatClampNeg (vp_nar .byte v22) := ⟨_, rfl⟩
              rw [← eg23]
              intro H locs (hP : va_P G vwCl [(a_0, .inr (9, [.ref a_12, .int 18])), (a_12, .inl (cy 0, 600, .inl g23))] H) (hD : va_D A [(a_0, .inr (9, [.ref a_12, .int 18])), (a_12, .inl (cy 0, 600, .inl g23))]) hS
              have rg23 : mm_ar g23 (-128) 127 := by rw [eg23]; exact mm_ar_upd (mm_ar_wk rg15 (by decide)) (mm_nb _) _
              refine lv_aload_n hx hb dX9_add_30 rfl (lv_at hl 1 rfl) ?_
              refine lv_dup hx hb dX9_add_31 rfl ?_
              refine va_get (D := G) (ci := 9) (v := .int 18) (C := RX9) (T := TX9) (N := 2) hx hb hts (mm_i inlX9) hown hK.1 hP 0 rfl rfl 1 (by decide) (mm_h hts mm_w172) (fun _ h9 => h9) rfl dX9_add_32 ?_
              refine lv_iconst (v := 1) hx hb dX9_add_35 (by decide) ?_
              refine lv_iadd hx hb dX9_add_36 ?_
              refine lv_topi (fun v24 ev24 => ?_)
              obtain rfl : v24 = 19 := ev24.trans (by decide)
              refine va_put (D := G) (ci := 9) (v := .int 19) (ty := tyX9 1) (C := RX9) (T := TX9) (N := 2) hx hb hts (mm_i inlX9) tyX9 tyX9_ok nmX9 hown hK.1 hP hD hS 0 rfl rfl 1 (by decide) (mm_h hts mm_w172) (fun _ h9 => h9) rfl (tyX9_ok 1 (by decide)) rfl rfl (Nat.le_of_ble_eq_true rfl) dX9_add_37 ?_
              clear hP hD hS
              clear H locs
              intro H locs (hP : va_P G vwCl [(a_0, .inr (9, [.ref a_12, .int 19])), (a_12, .inl (cy 0, 600, .inl g23))] H) (hD : va_D A [(a_0, .inr (9, [.ref a_12, .int 19])), (a_12, .inl (cy 0, 600, .inl g23))]) hS
              refine lv_iinc (v := 0) (lv' := [(2, .int 0), (0, .ref a_0), (1, .int i_0)]) hx hb dX9_add_40 hl (k := 0) rfl (by decide) (by decide) rfl ?_
              clear hl
              clear ls
              intro ls hl
              refine lv_goto (tgt := 3) hx hb dX9_add_43 (by decide) ?_
              refine lv_iload_n hx hb dX9_add_3 rfl (lv_at hl 0 rfl) ?_
              refine lv_if_lt (tgt := 46) hx hb dX9_add_4 (by decide) (fun c25 => ?_) (fun c25 => ?_)
              · have q26 := mm_ltL (h := (-1)) (mm_lt c25) mm_k0 mm_k0 (by decide)
                exact mm_no q26 (by decide)
              · refine lv_aload_n hx hb dX9_add_7 rfl (lv_at hl 1 rfl) ?_
                refine va_get (D := G) (ci := 9) (v := .int 19) (C := RX9) (T := TX9) (N := 2) hx hb hts (mm_i inlX9) hown hK.1 hP 0 rfl rfl 1 (by decide) (mm_h hts mm_w172) (fun _ h9 => h9) rfl dX9_add_8 ?_
                refine lv_sipush (v := 600) hx hb dX9_add_11 (by decide) ?_
                refine lv_icmp_ge (tgt := 46) hx hb dX9_add_14 (by decide) (fun c27 => ?_) (fun c27 => ?_)
                · have q28 := mm_leL (mm_le c27) mm_k600 mm_k19
                  exact mm_no q28 (by decide)
                · refine lv_aload_n hx hb dX9_add_17 rfl (lv_at hl 1 rfl) ?_
                  refine va_get (D := G) (ci := 9) (v := .ref a_12) (C := RX9) (T := TX9) (N := 2) hx hb hts (mm_i inlX9) hown hK.1 hP 0 rfl rfl 0 (by decide) (mm_h hts mm_w59) (fun _ h9 => h9) rfl dX9_add_18 ?_
                  refine lv_aload_n hx hb dX9_add_21 rfl (lv_at hl 1 rfl) ?_
                  refine va_get (D := G) (ci := 9) (v := .int 19) (C := RX9) (T := TX9) (N := 2) hx hb hts (mm_i inlX9) hown hK.1 hP 0 rfl rfl 1 (by decide) (mm_h hts mm_w172) (fun _ h9 => h9) rfl dX9_add_22 ?_
                  refine lv_iload_n hx hb dX9_add_25 rfl (lv_at hl 2 rfl) ?_
                  refine lv_iload_n hx hb dX9_add_26 rfl (lv_at hl 0 rfl) ?_
                  refine lv_ishr hx hb dX9_add_27 ?_
                  refine lv_topi (fun v29 ev29 => ?_)
                  obtain ⟨v30, ev30⟩ : ∃ y : Int32, y = v29.toInt8.toInt32 := ⟨_, rfl⟩
                  refine lv_i2b hx hb dX9_add_28 ev30.symm ?_
                  have rv30 : mm_rg v30 (-128) 127 := mm_i2b ev30
                  refine va_bast hx hb hK.1 hP hD hS 1 0 rfl rfl (mm_in mm_k19 (by decide)) dX9_add_29 ?_
                  clear hP hD hS
                  clear H locs
                  obtain ⟨g31, eg31⟩ : ∃ z : Nat → Int32, z = upd g23 (19 : Int32).toNatClampNeg (vp_nar .byte v30) := ⟨_, rfl⟩
                  rw [← eg31]
                  intro H locs (hP : va_P G vwCl [(a_0, .inr (9, [.ref a_12, .int 19])), (a_12, .inl (cy 0, 600, .inl g31))] H) (hD : va_D A [(a_0, .inr (9, [.ref a_12, .int 19])), (a_12, .inl (cy 0, 600, .inl g31))]) hS
                  have rg31 : mm_ar g31 (-128) 127 := by rw [eg31]; exact mm_ar_upd (mm_ar_wk rg23 (by decide)) (mm_nb _) _
                  refine lv_aload_n hx hb dX9_add_30 rfl (lv_at hl 1 rfl) ?_
                  refine lv_dup hx hb dX9_add_31 rfl ?_
                  refine va_get (D := G) (ci := 9) (v := .int 19) (C := RX9) (T := TX9) (N := 2) hx hb hts (mm_i inlX9) hown hK.1 hP 0 rfl rfl 1 (by decide) (mm_h hts mm_w172) (fun _ h9 => h9) rfl dX9_add_32 ?_
                  refine lv_iconst (v := 1) hx hb dX9_add_35 (by decide) ?_
                  refine lv_iadd hx hb dX9_add_36 ?_
                  refine lv_topi (fun v32 ev32 => ?_)
                  obtain rfl : v32 = 20 := ev32.trans (by decide)
                  refine va_put (D := G) (ci := 9) (v := .int 20) (ty := tyX9 1) (C := RX9) (T := TX9) (N := 2) hx hb hts (mm_i inlX9) tyX9 tyX9_ok nmX9 hown hK.1 hP hD hS 0 rfl rfl 1 (by decide) (mm_h hts mm_w172) (fun _ h9 => h9) rfl (tyX9_ok 1 (by decide)) rfl rfl (Nat.le_of_ble_eq_true rfl) dX9_add_37 ?_
                  clear hP hD hS
                  clear H locs
                  intro H locs (hP : va_P G vwCl [(a_0, .inr (9, [.ref a_12, .int 20])), (a_12, .inl (cy 0, 600, .inl g31))] H) (hD : va_D A [(a_0, .inr (9, [.ref a_12, .int 20])), (a_12, .inl (cy 0, 600, .inl g31))]) hS
                  refine lv_iinc (v := (-8)) (lv' := [(2, .int (-8)), (0, .ref a_0), (1, .int i_0)]) hx hb dX9_add_40 hl (k := 0) rfl (by decide) (by decide) rfl ?_
                  clear hl
                  clear ls
                  intro ls hl
                  refine lv_goto (tgt := 3) hx hb dX9_add_43 (by decide) ?_
                  refine lv_iload_n hx hb dX9_add_3 rfl (lv_at hl 0 rfl) ?_
                  refine lv_if_lt (tgt := 46) hx hb dX9_add_4 (by decide) (fun c33 => ?_) (fun c33 => ?_)
                  · subst hAe
                    rw [hQ]
                    exact W.vret hx hb hr (fun t ht hW => ⟨⟨g31, rfl, rg31, by rw [ht]; exact hP, hK.warm hW, hD⟩, hS.F ht⟩) hS.2.2 dX9_add_46
                  · have q34 := mm_leL (mm_nlt c33) mm_k0 mm_km8
                    exact mm_no q34 (by decide)

set_option maxHeartbeats 4000000 in
set_option maxRecDepth 100000 in
theorem K19_X11_feed (l : Launch) (G : va_G) (cy : Nat → ClassId) (sz : Nat) (a_0 : Nat) (i_0 : Int32) (i_1 : Int32) (i_2 : Int32) (i_3 : Int32) (i_4 : Int32) (a_1 : Nat) (a_2 : Nat) (a_3 : Nat) (a_4 : Nat) (a_5 : Nat) (a_6 : Nat) (a_7 : Nat) (a_8 : Nat) (a_9 : Nat) (a_10 : Nat) (a_11 : Nat) (a_12 : Nat)   : mm_CI l yX11_feed (mm_ws yX11_feed cX11_feed 6 (some .int)) ({ frames := 1, cells := 0, slots := 0, locals := 22 } : Room) G cy sz [(a_0, .inr (11, [.ref a_1, .ref a_2, .ref a_3, .ref a_4, .ref a_5, .ref a_6, .ref a_7, .ref a_8, .ref a_9, .ref a_10, .ref a_11])), (a_1, .inr (9, [.ref a_12, .int 0])), (a_12, .inl (cy 0, 600, .inl (fun _ => 0)))] [.ref a_0, .int i_0, .int i_1, .int i_2, .int i_3, .int i_4] (fun u : (Nat → Int32) => [(a_0, .inr (11, [.ref a_1, .ref a_2, .ref a_3, .ref a_4, .ref a_5, .ref a_6, .ref a_7, .ref a_8, .ref a_9, .ref a_10, .ref a_11])), (a_1, .inr (9, [.ref a_12, .int 20])), (a_12, .inl (cy 0, 600, .inl u))]) (fun (r : Int32) (u : (Nat → Int32)) => mm_ar u (-128) 127 ∧ 20 = r) 0 0 := by
  refine mm_begin (lv := [(0, .ref a_0), (1, .int i_0), (2, .int i_1), (3, .int i_2), (4, .int i_3), (5, .int i_4)]) (by decide) (Nat.le_of_ble_eq_true rfl) rfl ?_
  intro p e s m below meth c A ls R args Q H locs hRe hQ hAe hx hb hr hlocks hml hown hnm hts hsz hA hS hP hK hD hl
  have hRf : R.frames = 1 := by rw [hRe]
  have hRl : R.locals = 22 := by rw [hRe]
  have hRc : R.cells = 0 := by rw [hRe]
  have hRs : R.slots = 0 := by rw [hRe]
  refine lv_aload_n hx hb dX11_feed_0 rfl (lv_at hl 0 rfl) ?_
  refine va_get (D := G) (ci := 11) (v := .ref a_1) (C := RX11) (T := TX11) (N := 11) hx hb hts (mm_i inlX11) hown hK.1 hP 0 rfl rfl 0 (by decide) (mm_h hts mm_w16) (fun _ h9 => h9) rfl dX11_feed_1 ?_
  refine va_get (D := G) (ci := 9) (v := .int 0) (C := RX9) (T := TX9) (N := 2) hx hb hts (mm_i inlX9) hown hK.1 hP 1 rfl rfl 1 (by decide) (mm_h hts mm_w167) (fun _ h9 => h9) rfl dX11_feed_4 ?_
  refine lv_bipush (v := 20) hx hb dX11_feed_7 (by decide) ?_
  refine lv_iadd hx hb dX11_feed_9 ?_
  refine lv_topi (fun v1 ev1 => ?_)
  obtain rfl : v1 = 20 := ev1.trans (by decide)
  refine lv_sipush (v := 600) hx hb dX11_feed_10 (by decide) ?_
  refine lv_icmp_le (tgt := 18) hx hb dX11_feed_13 (by decide) (fun c2 => ?_) (fun c2 => ?_)
  · refine lv_aload_n hx hb dX11_feed_18 rfl (lv_at hl 0 rfl) ?_
    refine va_get (D := G) (ci := 11) (v := .ref a_1) (C := RX11) (T := TX11) (N := 11) hx hb hts (mm_i inlX11) hown hK.1 hP 0 rfl rfl 0 (by decide) (mm_h hts mm_w16) (fun _ h9 => h9) rfl dX11_feed_19 ?_
    refine lv_iload_n hx hb dX11_feed_22 rfl (lv_at hl 1 rfl) ?_
    refine mm_finv (va_runV (As := [.int i_0]) (rest := []) ⟨hx, hb, hml, hown, hts⟩ (K14_X9_add l G cy H.size a_1 i_0 a_12 ) (cwV 1 hts (mm_gV mm_w168 mm_w169 mm_w170 mm_w15 mm_w171) rfl rfl rfl hd_X9_add ⟨by rw [hRf]; exact Nat.le_of_ble_eq_true rfl, by rw [hRl]; exact Nat.le_of_ble_eq_true rfl⟩) (mm_preV hK hP hD [1, 2] rfl rfl 1 rfl rfl rfl) rfl rfl hl.1 rfl (lv_room (Nat.le_of_ble_eq_true rfl)) dX11_feed_23 ⟨by rw [hRc]; exact Nat.le_of_ble_eq_true rfl, by rw [hRs]; exact Nat.le_of_ble_eq_true rfl⟩) hP hD hS hA (fun u : (Nat → Int32) => [(a_0, .inr (11, [.ref a_1, .ref a_2, .ref a_3, .ref a_4, .ref a_5, .ref a_6, .ref a_7, .ref a_8, .ref a_9, .ref a_10, .ref a_11])), (a_1, .inr (9, [.ref a_12, .int 4])), (a_12, .inl (cy 0, 600, .inl u))]) [1, 2] [0] (n := 3) (fun _ => rfl) (by decide +kernel) (by decide +kernel) rfl (fun _ => rfl) (wr := [(a_0, .inr (11, [.ref a_1, .ref a_2, .ref a_3, .ref a_4, .ref a_5, .ref a_6, .ref a_7, .ref a_8, .ref a_9, .ref a_10, .ref a_11]))]) rfl (fun _ => rfl) (fun _ => rfl) ?_
    clear hP hD hS
    clear H locs
    intro n3 H locs hw (hP : va_P G vwCl [(a_0, .inr (11, [.ref a_1, .ref a_2, .ref a_3, .ref a_4, .ref a_5, .ref a_6, .ref a_7, .ref a_8, .ref a_9, .ref a_10, .ref a_11])), (a_1, .inr (9, [.ref a_12, .int 4])), (a_12, .inl (cy 0, 600, .inl n3))] H) (hD : va_D A [(a_0, .inr (11, [.ref a_1, .ref a_2, .ref a_3, .ref a_4, .ref a_5, .ref a_6, .ref a_7, .ref a_8, .ref a_9, .ref a_10, .ref a_11])), (a_1, .inr (9, [.ref a_12, .int 4])), (a_12, .inl (cy 0, 600, .inl n3))]) hS
    have w4 := hw
    refine lv_aload_n hx hb dX11_feed_26 rfl (lv_at hl 0 rfl) ?_
    refine va_get (D := G) (ci := 11) (v := .ref a_1) (C := RX11) (T := TX11) (N := 11) hx hb hts (mm_i inlX11) hown hK.1 hP 0 rfl rfl 0 (by decide) (mm_h hts mm_w16) (fun _ h9 => h9) rfl dX11_feed_27 ?_
    refine lv_iload_n hx hb dX11_feed_30 rfl (lv_at hl 2 rfl) ?_
    refine mm_finv (va_runV (As := [.int i_1]) (rest := []) ⟨hx, hb, hml, hown, hts⟩ (K15_X9_add l G cy H.size a_1 i_1 a_12 n3 w4) (cwV 1 hts (mm_gV mm_w168 mm_w169 mm_w170 mm_w15 mm_w171) rfl rfl rfl hd_X9_add ⟨by rw [hRf]; exact Nat.le_of_ble_eq_true rfl, by rw [hRl]; exact Nat.le_of_ble_eq_true rfl⟩) (mm_preV hK hP hD [1, 2] rfl rfl 1 rfl rfl rfl) rfl rfl hl.1 rfl (lv_room (Nat.le_of_ble_eq_true rfl)) dX11_feed_31 ⟨by rw [hRc]; exact Nat.le_of_ble_eq_true rfl, by rw [hRs]; exact Nat.le_of_ble_eq_true rfl⟩) hP hD hS hA (fun u : (Nat → Int32) => [(a_0, .inr (11, [.ref a_1, .ref a_2, .ref a_3, .ref a_4, .ref a_5, .ref a_6, .ref a_7, .ref a_8, .ref a_9, .ref a_10, .ref a_11])), (a_1, .inr (9, [.ref a_12, .int 8])), (a_12, .inl (cy 0, 600, .inl u))]) [1, 2] [0] (n := 3) (fun _ => rfl) (by decide +kernel) (by decide +kernel) rfl (fun _ => rfl) (wr := [(a_0, .inr (11, [.ref a_1, .ref a_2, .ref a_3, .ref a_4, .ref a_5, .ref a_6, .ref a_7, .ref a_8, .ref a_9, .ref a_10, .ref a_11]))]) rfl (fun _ => rfl) (fun _ => rfl) ?_
    clear hP hD hS
    clear H locs
    intro n5 H locs hw (hP : va_P G vwCl [(a_0, .inr (11, [.ref a_1, .ref a_2, .ref a_3, .ref a_4, .ref a_5, .ref a_6, .ref a_7, .ref a_8, .ref a_9, .ref a_10, .ref a_11])), (a_1, .inr (9, [.ref a_12, .int 8])), (a_12, .inl (cy 0, 600, .inl n5))] H) (hD : va_D A [(a_0, .inr (11, [.ref a_1, .ref a_2, .ref a_3, .ref a_4, .ref a_5, .ref a_6, .ref a_7, .ref a_8, .ref a_9, .ref a_10, .ref a_11])), (a_1, .inr (9, [.ref a_12, .int 8])), (a_12, .inl (cy 0, 600, .inl n5))]) hS
    have w6 := hw
    refine lv_aload_n hx hb dX11_feed_34 rfl (lv_at hl 0 rfl) ?_
    refine va_get (D := G) (ci := 11) (v := .ref a_1) (C := RX11) (T := TX11) (N := 11) hx hb hts (mm_i inlX11) hown hK.1 hP 0 rfl rfl 0 (by decide) (mm_h hts mm_w16) (fun _ h9 => h9) rfl dX11_feed_35 ?_
    refine lv_iload_n hx hb dX11_feed_38 rfl (lv_at hl 3 rfl) ?_
    refine mm_finv (va_runV (As := [.int i_2]) (rest := []) ⟨hx, hb, hml, hown, hts⟩ (K16_X9_add l G cy H.size a_1 i_2 a_12 n5 w6) (cwV 1 hts (mm_gV mm_w168 mm_w169 mm_w170 mm_w15 mm_w171) rfl rfl rfl hd_X9_add ⟨by rw [hRf]; exact Nat.le_of_ble_eq_true rfl, by rw [hRl]; exact Nat.le_of_ble_eq_true rfl⟩) (mm_preV hK hP hD [1, 2] rfl rfl 1 rfl rfl rfl) rfl rfl hl.1 rfl (lv_room (Nat.le_of_ble_eq_true rfl)) dX11_feed_39 ⟨by rw [hRc]; exact Nat.le_of_ble_eq_true rfl, by rw [hRs]; exact Nat.le_of_ble_eq_true rfl⟩) hP hD hS hA (fun u : (Nat → Int32) => [(a_0, .inr (11, [.ref a_1, .ref a_2, .ref a_3, .ref a_4, .ref a_5, .ref a_6, .ref a_7, .ref a_8, .ref a_9, .ref a_10, .ref a_11])), (a_1, .inr (9, [.ref a_12, .int 12])), (a_12, .inl (cy 0, 600, .inl u))]) [1, 2] [0] (n := 3) (fun _ => rfl) (by decide +kernel) (by decide +kernel) rfl (fun _ => rfl) (wr := [(a_0, .inr (11, [.ref a_1, .ref a_2, .ref a_3, .ref a_4, .ref a_5, .ref a_6, .ref a_7, .ref a_8, .ref a_9, .ref a_10, .ref a_11]))]) rfl (fun _ => rfl) (fun _ => rfl) ?_
    clear hP hD hS
    clear H locs
    intro n7 H locs hw (hP : va_P G vwCl [(a_0, .inr (11, [.ref a_1, .ref a_2, .ref a_3, .ref a_4, .ref a_5, .ref a_6, .ref a_7, .ref a_8, .ref a_9, .ref a_10, .ref a_11])), (a_1, .inr (9, [.ref a_12, .int 12])), (a_12, .inl (cy 0, 600, .inl n7))] H) (hD : va_D A [(a_0, .inr (11, [.ref a_1, .ref a_2, .ref a_3, .ref a_4, .ref a_5, .ref a_6, .ref a_7, .ref a_8, .ref a_9, .ref a_10, .ref a_11])), (a_1, .inr (9, [.ref a_12, .int 12])), (a_12, .inl (cy 0, 600, .inl n7))]) hS
    have w8 := hw
    refine lv_aload_n hx hb dX11_feed_42 rfl (lv_at hl 0 rfl) ?_
    refine va_get (D := G) (ci := 11) (v := .ref a_1) (C := RX11) (T := TX11) (N := 11) hx hb hts (mm_i inlX11) hown hK.1 hP 0 rfl rfl 0 (by decide) (mm_h hts mm_w16) (fun _ h9 => h9) rfl dX11_feed_43 ?_
    refine lv_iload hx hb dX11_feed_46 (lv_at hl 4 rfl) ?_
    refine mm_finv (va_runV (As := [.int i_3]) (rest := []) ⟨hx, hb, hml, hown, hts⟩ (K17_X9_add l G cy H.size a_1 i_3 a_12 n7 w8) (cwV 1 hts (mm_gV mm_w168 mm_w169 mm_w170 mm_w15 mm_w171) rfl rfl rfl hd_X9_add ⟨by rw [hRf]; exact Nat.le_of_ble_eq_true rfl, by rw [hRl]; exact Nat.le_of_ble_eq_true rfl⟩) (mm_preV hK hP hD [1, 2] rfl rfl 1 rfl rfl rfl) rfl rfl hl.1 rfl (lv_room (Nat.le_of_ble_eq_true rfl)) dX11_feed_48 ⟨by rw [hRc]; exact Nat.le_of_ble_eq_true rfl, by rw [hRs]; exact Nat.le_of_ble_eq_true rfl⟩) hP hD hS hA (fun u : (Nat → Int32) => [(a_0, .inr (11, [.ref a_1, .ref a_2, .ref a_3, .ref a_4, .ref a_5, .ref a_6, .ref a_7, .ref a_8, .ref a_9, .ref a_10, .ref a_11])), (a_1, .inr (9, [.ref a_12, .int 16])), (a_12, .inl (cy 0, 600, .inl u))]) [1, 2] [0] (n := 3) (fun _ => rfl) (by decide +kernel) (by decide +kernel) rfl (fun _ => rfl) (wr := [(a_0, .inr (11, [.ref a_1, .ref a_2, .ref a_3, .ref a_4, .ref a_5, .ref a_6, .ref a_7, .ref a_8, .ref a_9, .ref a_10, .ref a_11]))]) rfl (fun _ => rfl) (fun _ => rfl) ?_
    clear hP hD hS
    clear H locs
    intro n9 H locs hw (hP : va_P G vwCl [(a_0, .inr (11, [.ref a_1, .ref a_2, .ref a_3, .ref a_4, .ref a_5, .ref a_6, .ref a_7, .ref a_8, .ref a_9, .ref a_10, .ref a_11])), (a_1, .inr (9, [.ref a_12, .int 16])), (a_12, .inl (cy 0, 600, .inl n9))] H) (hD : va_D A [(a_0, .inr (11, [.ref a_1, .ref a_2, .ref a_3, .ref a_4, .ref a_5, .ref a_6, .ref a_7, .ref a_8, .ref a_9, .ref a_10, .ref a_11])), (a_1, .inr (9, [.ref a_12, .int 16])), (a_12, .inl (cy 0, 600, .inl n9))]) hS
    have w10 := hw
    refine lv_aload_n hx hb dX11_feed_51 rfl (lv_at hl 0 rfl) ?_
    refine va_get (D := G) (ci := 11) (v := .ref a_1) (C := RX11) (T := TX11) (N := 11) hx hb hts (mm_i inlX11) hown hK.1 hP 0 rfl rfl 0 (by decide) (mm_h hts mm_w16) (fun _ h9 => h9) rfl dX11_feed_52 ?_
    refine lv_iload hx hb dX11_feed_55 (lv_at hl 5 rfl) ?_
    refine mm_finv (va_runV (As := [.int i_4]) (rest := []) ⟨hx, hb, hml, hown, hts⟩ (K18_X9_add l G cy H.size a_1 i_4 a_12 n9 w10) (cwV 1 hts (mm_gV mm_w168 mm_w169 mm_w170 mm_w15 mm_w171) rfl rfl rfl hd_X9_add ⟨by rw [hRf]; exact Nat.le_of_ble_eq_true rfl, by rw [hRl]; exact Nat.le_of_ble_eq_true rfl⟩) (mm_preV hK hP hD [1, 2] rfl rfl 1 rfl rfl rfl) rfl rfl hl.1 rfl (lv_room (Nat.le_of_ble_eq_true rfl)) dX11_feed_57 ⟨by rw [hRc]; exact Nat.le_of_ble_eq_true rfl, by rw [hRs]; exact Nat.le_of_ble_eq_true rfl⟩) hP hD hS hA (fun u : (Nat → Int32) => [(a_0, .inr (11, [.ref a_1, .ref a_2, .ref a_3, .ref a_4, .ref a_5, .ref a_6, .ref a_7, .ref a_8, .ref a_9, .ref a_10, .ref a_11])), (a_1, .inr (9, [.ref a_12, .int 20])), (a_12, .inl (cy 0, 600, .inl u))]) [1, 2] [0] (n := 3) (fun _ => rfl) (by decide +kernel) (by decide +kernel) rfl (fun _ => rfl) (wr := [(a_0, .inr (11, [.ref a_1, .ref a_2, .ref a_3, .ref a_4, .ref a_5, .ref a_6, .ref a_7, .ref a_8, .ref a_9, .ref a_10, .ref a_11]))]) rfl (fun _ => rfl) (fun _ => rfl) ?_
    clear hP hD hS
    clear H locs
    intro n11 H locs hw (hP : va_P G vwCl [(a_0, .inr (11, [.ref a_1, .ref a_2, .ref a_3, .ref a_4, .ref a_5, .ref a_6, .ref a_7, .ref a_8, .ref a_9, .ref a_10, .ref a_11])), (a_1, .inr (9, [.ref a_12, .int 20])), (a_12, .inl (cy 0, 600, .inl n11))] H) (hD : va_D A [(a_0, .inr (11, [.ref a_1, .ref a_2, .ref a_3, .ref a_4, .ref a_5, .ref a_6, .ref a_7, .ref a_8, .ref a_9, .ref a_10, .ref a_11])), (a_1, .inr (9, [.ref a_12, .int 20])), (a_12, .inl (cy 0, 600, .inl n11))]) hS
    have w12 := hw
    refine lv_aload_n hx hb dX11_feed_60 rfl (lv_at hl 0 rfl) ?_
    refine va_get (D := G) (ci := 11) (v := .ref a_1) (C := RX11) (T := TX11) (N := 11) hx hb hts (mm_i inlX11) hown hK.1 hP 0 rfl rfl 0 (by decide) (mm_h hts mm_w16) (fun _ h9 => h9) rfl dX11_feed_61 ?_
    refine va_get (D := G) (ci := 9) (v := .int 20) (C := RX9) (T := TX9) (N := 2) hx hb hts (mm_i inlX9) hown hK.1 hP 1 rfl rfl 1 (by decide) (mm_h hts mm_w167) (fun _ h9 => h9) rfl dX11_feed_64 ?_
    subst hAe
    rw [hQ]
    exact W.iret (v := 20) hx hb hr (fun t ht hW => ⟨⟨20, n11, rfl, ⟨w12, rfl⟩, by rw [ht]; exact hP, hK.warm hW, hD⟩, hS.F ht⟩) hS.2.2 dX11_feed_67
  · have q13 := mm_ltL (h := 19) (mm_nle c2) mm_k600 mm_k20 (by decide)
    exact mm_no q13 (by decide)

set_option maxHeartbeats 4000000 in
set_option maxRecDepth 100000 in
theorem K20_X12_four (l : Launch) (G : va_G) (cy : Nat → ClassId) (sz : Nat) (a_0 : Nat) (i_0 : Int32) (k_0 : Int32) (a_1 : Nat) (a_2 : Nat) (a_3 : Nat) (a_4 : Nat) (a_5 : Nat) (k_1 : Int32) (k_2 : Int32) (k_3 : Int32) (k_4 : Int32) (k_5 : Int64) (k_6 : Int32) (k_7 : Int32) (k_8 : Int32) (k_9 : Int32) (a_6 : Nat) (a_7 : Nat) (a_8 : Nat) (a_9 : Nat) (a_10 : Nat) (a_11 : Nat) (a_12 : Nat) (a_13 : Nat) (a_14 : Nat) (a_15 : Nat) (a_16 : Nat) (a_17 : Nat) (a_18 : Nat) (k_10 : Int32) (k_11 : Int32) (k_12 : Int32) (k_13 : Int32) (k_14 : Int32) (k_15 : Int32) (a_19 : Nat) (k_16 : Int32) (a_20 : Nat)   : mm_CV l yX12_four (mm_ws yX12_four cX12_four 3 (none)) ({ frames := 0, cells := 0, slots := 0, locals := 0 } : Room) G cy sz [(a_0, .inr (12, [.int k_0, .ref a_1, .ref a_2, .ref a_3, .ref a_4, .ref a_5, .int 0, .int k_1, .int k_2, .int k_3, .int k_4, .long k_5, .int k_6, .int k_7, .int k_8, .int k_9, .ref a_6, .ref a_7, .ref a_8, .ref a_9, .ref a_10, .ref a_11, .ref a_12, .ref a_13, .ref a_14, .ref a_15, .ref a_16, .ref a_17, .ref a_18, .int k_10, .int k_11, .int k_12, .int k_13, .int k_14, .int k_15, .ref a_19, .int k_16, .ref a_20])), (a_5, .inl (cy 0, 600, .inl (fun _ => 0)))] [.ref a_0, .int i_0] (fun u : (Nat → Int32) => [(a_0, .inr (12, [.int k_0, .ref a_1, .ref a_2, .ref a_3, .ref a_4, .ref a_5, .int 4, .int k_1, .int k_2, .int k_3, .int k_4, .long k_5, .int k_6, .int k_7, .int k_8, .int k_9, .ref a_6, .ref a_7, .ref a_8, .ref a_9, .ref a_10, .ref a_11, .ref a_12, .ref a_13, .ref a_14, .ref a_15, .ref a_16, .ref a_17, .ref a_18, .int k_10, .int k_11, .int k_12, .int k_13, .int k_14, .int k_15, .ref a_19, .int k_16, .ref a_20])), (a_5, .inl (cy 0, 600, .inl u))]) (fun u : (Nat → Int32) => mm_ar u (-128) 127) 0 0 := by
  refine mm_begin (lv := [(0, .ref a_0), (1, .int i_0)]) (by decide) (Nat.le_of_ble_eq_true rfl) rfl ?_
  intro p e s m below meth c A ls R args Q H locs hRe hQ hAe hx hb hr hlocks hml hown hnm hts hsz hA hS hP hK hD hl
  have hRf : R.frames = 0 := by rw [hRe]
  have hRl : R.locals = 0 := by rw [hRe]
  have hRc : R.cells = 0 := by rw [hRe]
  have hRs : R.slots = 0 := by rw [hRe]
  refine lv_bipush (v := 24) hx hb dX12_four_0 (by decide) ?_
  refine lv_istore_n (lv' := [(2, .int 24), (0, .ref a_0), (1, .int i_0)]) hx hb dX12_four_2 rfl hl (by decide) rfl ?_
  clear hl
  clear ls
  intro ls hl
  refine lv_iload_n hx hb dX12_four_3 rfl (lv_at hl 0 rfl) ?_
  refine lv_if_lt (tgt := 36) hx hb dX12_four_4 (by decide) (fun c1 => ?_) (fun c1 => ?_)
  · have q2 := mm_ltL (h := (-1)) (mm_lt c1) mm_k24 mm_k0 (by decide)
    exact mm_no q2 (by decide)
  · refine lv_aload_n hx hb dX12_four_7 rfl (lv_at hl 1 rfl) ?_
    refine va_get (D := G) (ci := 12) (v := .ref a_5) (C := RX12) (T := TX12) (N := 38) hx hb hts (mm_i inlX12) hown hK.1 hP 0 rfl rfl 5 (by decide) (mm_h hts mm_w146) (fun _ h9 => h9) rfl dX12_four_8 ?_
    refine lv_aload_n hx hb dX12_four_11 rfl (lv_at hl 1 rfl) ?_
    refine va_get (D := G) (ci := 12) (v := .int 0) (C := RX12) (T := TX12) (N := 38) hx hb hts (mm_i inlX12) hown hK.1 hP 0 rfl rfl 6 (by decide) (mm_h hts mm_w178) (fun _ h9 => h9) rfl dX12_four_12 ?_
    refine lv_iload_n hx hb dX12_four_15 rfl (lv_at hl 2 rfl) ?_
    refine lv_iload_n hx hb dX12_four_16 rfl (lv_at hl 0 rfl) ?_
    refine lv_ishr hx hb dX12_four_17 ?_
    refine lv_topi (fun v3 ev3 => ?_)
    obtain ⟨v4, ev4⟩ : ∃ y : Int32, y = v3.toInt8.toInt32 := ⟨_, rfl⟩
    refine lv_i2b hx hb dX12_four_18 ev4.symm ?_
    have rv4 : mm_rg v4 (-128) 127 := mm_i2b ev4
    refine va_bast hx hb hK.1 hP hD hS 1 0 rfl rfl (mm_in mm_k0 (by decide)) dX12_four_19 ?_
    clear hP hD hS
    clear H locs
    obtain ⟨g5, eg5⟩ : ∃ z : Nat → Int32, z = upd (fun _ => 0) (0 : Int32).toNatClampNeg (vp_nar .byte v4) := ⟨_, rfl⟩
    rw [← eg5]
    intro H locs (hP : va_P G vwCl [(a_0, .inr (12, [.int k_0, .ref a_1, .ref a_2, .ref a_3, .ref a_4, .ref a_5, .int 0, .int k_1, .int k_2, .int k_3, .int k_4, .long k_5, .int k_6, .int k_7, .int k_8, .int k_9, .ref a_6, .ref a_7, .ref a_8, .ref a_9, .ref a_10, .ref a_11, .ref a_12, .ref a_13, .ref a_14, .ref a_15, .ref a_16, .ref a_17, .ref a_18, .int k_10, .int k_11, .int k_12, .int k_13, .int k_14, .int k_15, .ref a_19, .int k_16, .ref a_20])), (a_5, .inl (cy 0, 600, .inl g5))] H) (hD : va_D A [(a_0, .inr (12, [.int k_0, .ref a_1, .ref a_2, .ref a_3, .ref a_4, .ref a_5, .int 0, .int k_1, .int k_2, .int k_3, .int k_4, .long k_5, .int k_6, .int k_7, .int k_8, .int k_9, .ref a_6, .ref a_7, .ref a_8, .ref a_9, .ref a_10, .ref a_11, .ref a_12, .ref a_13, .ref a_14, .ref a_15, .ref a_16, .ref a_17, .ref a_18, .int k_10, .int k_11, .int k_12, .int k_13, .int k_14, .int k_15, .ref a_19, .int k_16, .ref a_20])), (a_5, .inl (cy 0, 600, .inl g5))]) hS
    have rg5 : mm_ar g5 (-128) 127 := by rw [eg5]; exact mm_ar_upd (mm_ar_wk (mm_ar_c mm_k0) (by decide)) (mm_nb _) _
    refine lv_aload_n hx hb dX12_four_20 rfl (lv_at hl 1 rfl) ?_
    refine lv_dup hx hb dX12_four_21 rfl ?_
    refine va_get (D := G) (ci := 12) (v := .int 0) (C := RX12) (T := TX12) (N := 38) hx hb hts (mm_i inlX12) hown hK.1 hP 0 rfl rfl 6 (by decide) (mm_h hts mm_w178) (fun _ h9 => h9) rfl dX12_four_22 ?_
    refine lv_iconst (v := 1) hx hb dX12_four_25 (by decide) ?_
    refine lv_iadd hx hb dX12_four_26 ?_
    refine lv_topi (fun v6 ev6 => ?_)
    obtain rfl : v6 = 1 := ev6.trans (by decide)
    refine va_put (D := G) (ci := 12) (v := .int 1) (ty := tyX12 6) (C := RX12) (T := TX12) (N := 38) hx hb hts (mm_i inlX12) tyX12 tyX12_ok nmX12 hown hK.1 hP hD hS 0 rfl rfl 6 (by decide) (mm_h hts mm_w178) (fun _ h9 => h9) rfl (tyX12_ok 6 (by decide)) rfl rfl (Nat.le_of_ble_eq_true rfl) dX12_four_27 ?_
    clear hP hD hS
    clear H locs
    intro H locs (hP : va_P G vwCl [(a_0, .inr (12, [.int k_0, .ref a_1, .ref a_2, .ref a_3, .ref a_4, .ref a_5, .int 1, .int k_1, .int k_2, .int k_3, .int k_4, .long k_5, .int k_6, .int k_7, .int k_8, .int k_9, .ref a_6, .ref a_7, .ref a_8, .ref a_9, .ref a_10, .ref a_11, .ref a_12, .ref a_13, .ref a_14, .ref a_15, .ref a_16, .ref a_17, .ref a_18, .int k_10, .int k_11, .int k_12, .int k_13, .int k_14, .int k_15, .ref a_19, .int k_16, .ref a_20])), (a_5, .inl (cy 0, 600, .inl g5))] H) (hD : va_D A [(a_0, .inr (12, [.int k_0, .ref a_1, .ref a_2, .ref a_3, .ref a_4, .ref a_5, .int 1, .int k_1, .int k_2, .int k_3, .int k_4, .long k_5, .int k_6, .int k_7, .int k_8, .int k_9, .ref a_6, .ref a_7, .ref a_8, .ref a_9, .ref a_10, .ref a_11, .ref a_12, .ref a_13, .ref a_14, .ref a_15, .ref a_16, .ref a_17, .ref a_18, .int k_10, .int k_11, .int k_12, .int k_13, .int k_14, .int k_15, .ref a_19, .int k_16, .ref a_20])), (a_5, .inl (cy 0, 600, .inl g5))]) hS
    refine lv_iinc (v := 16) (lv' := [(2, .int 16), (0, .ref a_0), (1, .int i_0)]) hx hb dX12_four_30 hl (k := 0) rfl (by decide) (by decide) rfl ?_
    clear hl
    clear ls
    intro ls hl
    refine lv_goto (tgt := 3) hx hb dX12_four_33 (by decide) ?_
    refine lv_iload_n hx hb dX12_four_3 rfl (lv_at hl 0 rfl) ?_
    refine lv_if_lt (tgt := 36) hx hb dX12_four_4 (by decide) (fun c7 => ?_) (fun c7 => ?_)
    · have q8 := mm_ltL (h := (-1)) (mm_lt c7) mm_k16 mm_k0 (by decide)
      exact mm_no q8 (by decide)
    · refine lv_aload_n hx hb dX12_four_7 rfl (lv_at hl 1 rfl) ?_
      refine va_get (D := G) (ci := 12) (v := .ref a_5) (C := RX12) (T := TX12) (N := 38) hx hb hts (mm_i inlX12) hown hK.1 hP 0 rfl rfl 5 (by decide) (mm_h hts mm_w146) (fun _ h9 => h9) rfl dX12_four_8 ?_
      refine lv_aload_n hx hb dX12_four_11 rfl (lv_at hl 1 rfl) ?_
      refine va_get (D := G) (ci := 12) (v := .int 1) (C := RX12) (T := TX12) (N := 38) hx hb hts (mm_i inlX12) hown hK.1 hP 0 rfl rfl 6 (by decide) (mm_h hts mm_w178) (fun _ h9 => h9) rfl dX12_four_12 ?_
      refine lv_iload_n hx hb dX12_four_15 rfl (lv_at hl 2 rfl) ?_
      refine lv_iload_n hx hb dX12_four_16 rfl (lv_at hl 0 rfl) ?_
      refine lv_ishr hx hb dX12_four_17 ?_
      refine lv_topi (fun v9 ev9 => ?_)
      obtain ⟨v10, ev10⟩ : ∃ y : Int32, y = v9.toInt8.toInt32 := ⟨_, rfl⟩
      refine lv_i2b hx hb dX12_four_18 ev10.symm ?_
      have rv10 : mm_rg v10 (-128) 127 := mm_i2b ev10
      refine va_bast hx hb hK.1 hP hD hS 1 0 rfl rfl (mm_in mm_k1 (by decide)) dX12_four_19 ?_
      clear hP hD hS
      clear H locs
      obtain ⟨g11, eg11⟩ : ∃ z : Nat → Int32, z = upd g5 (1 : Int32).toNatClampNeg (vp_nar .byte v10) := ⟨_, rfl⟩
      rw [← eg11]
      intro H locs (hP : va_P G vwCl [(a_0, .inr (12, [.int k_0, .ref a_1, .ref a_2, .ref a_3, .ref a_4, .ref a_5, .int 1, .int k_1, .int k_2, .int k_3, .int k_4, .long k_5, .int k_6, .int k_7, .int k_8, .int k_9, .ref a_6, .ref a_7, .ref a_8, .ref a_9, .ref a_10, .ref a_11, .ref a_12, .ref a_13, .ref a_14, .ref a_15, .ref a_16, .ref a_17, .ref a_18, .int k_10, .int k_11, .int k_12, .int k_13, .int k_14, .int k_15, .ref a_19, .int k_16, .ref a_20])), (a_5, .inl (cy 0, 600, .inl g11))] H) (hD : va_D A [(a_0, .inr (12, [.int k_0, .ref a_1, .ref a_2, .ref a_3, .ref a_4, .ref a_5, .int 1, .int k_1, .int k_2, .int k_3, .int k_4, .long k_5, .int k_6, .int k_7, .int k_8, .int k_9, .ref a_6, .ref a_7, .ref a_8, .ref a_9, .ref a_10, .ref a_11, .ref a_12, .ref a_13, .ref a_14, .ref a_15, .ref a_16, .ref a_17, .ref a_18, .int k_10, .int k_11, .int k_12, .int k_13, .int k_14, .int k_15, .ref a_19, .int k_16, .ref a_20])), (a_5, .inl (cy 0, 600, .inl g11))]) hS
      have rg11 : mm_ar g11 (-128) 127 := by rw [eg11]; exact mm_ar_upd (mm_ar_wk rg5 (by decide)) (mm_nb _) _
      refine lv_aload_n hx hb dX12_four_20 rfl (lv_at hl 1 rfl) ?_
      refine lv_dup hx hb dX12_four_21 rfl ?_
      refine va_get (D := G) (ci := 12) (v := .int 1) (C := RX12) (T := TX12) (N := 38) hx hb hts (mm_i inlX12) hown hK.1 hP 0 rfl rfl 6 (by decide) (mm_h hts mm_w178) (fun _ h9 => h9) rfl dX12_four_22 ?_
      refine lv_iconst (v := 1) hx hb dX12_four_25 (by decide) ?_
      refine lv_iadd hx hb dX12_four_26 ?_
      refine lv_topi (fun v12 ev12 => ?_)
      obtain rfl : v12 = 2 := ev12.trans (by decide)
      refine va_put (D := G) (ci := 12) (v := .int 2) (ty := tyX12 6) (C := RX12) (T := TX12) (N := 38) hx hb hts (mm_i inlX12) tyX12 tyX12_ok nmX12 hown hK.1 hP hD hS 0 rfl rfl 6 (by decide) (mm_h hts mm_w178) (fun _ h9 => h9) rfl (tyX12_ok 6 (by decide)) rfl rfl (Nat.le_of_ble_eq_true rfl) dX12_four_27 ?_
      clear hP hD hS
      clear H locs
      intro H locs (hP : va_P G vwCl [(a_0, .inr (12, [.int k_0, .ref a_1, .ref a_2, .ref a_3, .ref a_4, .ref a_5, .int 2, .int k_1, .int k_2, .int k_3, .int k_4, .long k_5, .int k_6, .int k_7, .int k_8, .int k_9, .ref a_6, .ref a_7, .ref a_8, .ref a_9, .ref a_10, .ref a_11, .ref a_12, .ref a_13, .ref a_14, .ref a_15, .ref a_16, .ref a_17, .ref a_18, .int k_10, .int k_11, .int k_12, .int k_13, .int k_14, .int k_15, .ref a_19, .int k_16, .ref a_20])), (a_5, .inl (cy 0, 600, .inl g11))] H) (hD : va_D A [(a_0, .inr (12, [.int k_0, .ref a_1, .ref a_2, .ref a_3, .ref a_4, .ref a_5, .int 2, .int k_1, .int k_2, .int k_3, .int k_4, .long k_5, .int k_6, .int k_7, .int k_8, .int k_9, .ref a_6, .ref a_7, .ref a_8, .ref a_9, .ref a_10, .ref a_11, .ref a_12, .ref a_13, .ref a_14, .ref a_15, .ref a_16, .ref a_17, .ref a_18, .int k_10, .int k_11, .int k_12, .int k_13, .int k_14, .int k_15, .ref a_19, .int k_16, .ref a_20])), (a_5, .inl (cy 0, 600, .inl g11))]) hS
      refine lv_iinc (v := 8) (lv' := [(2, .int 8), (0, .ref a_0), (1, .int i_0)]) hx hb dX12_four_30 hl (k := 0) rfl (by decide) (by decide) rfl ?_
      clear hl
      clear ls
      intro ls hl
      refine lv_goto (tgt := 3) hx hb dX12_four_33 (by decide) ?_
      refine lv_iload_n hx hb dX12_four_3 rfl (lv_at hl 0 rfl) ?_
      refine lv_if_lt (tgt := 36) hx hb dX12_four_4 (by decide) (fun c13 => ?_) (fun c13 => ?_)
      · have q14 := mm_ltL (h := (-1)) (mm_lt c13) mm_k8 mm_k0 (by decide)
        exact mm_no q14 (by decide)
      · refine lv_aload_n hx hb dX12_four_7 rfl (lv_at hl 1 rfl) ?_
        refine va_get (D := G) (ci := 12) (v := .ref a_5) (C := RX12) (T := TX12) (N := 38) hx hb hts (mm_i inlX12) hown hK.1 hP 0 rfl rfl 5 (by decide) (mm_h hts mm_w146) (fun _ h9 => h9) rfl dX12_four_8 ?_
        refine lv_aload_n hx hb dX12_four_11 rfl (lv_at hl 1 rfl) ?_
        refine va_get (D := G) (ci := 12) (v := .int 2) (C := RX12) (T := TX12) (N := 38) hx hb hts (mm_i inlX12) hown hK.1 hP 0 rfl rfl 6 (by decide) (mm_h hts mm_w178) (fun _ h9 => h9) rfl dX12_four_12 ?_
        refine lv_iload_n hx hb dX12_four_15 rfl (lv_at hl 2 rfl) ?_
        refine lv_iload_n hx hb dX12_four_16 rfl (lv_at hl 0 rfl) ?_
        refine lv_ishr hx hb dX12_four_17 ?_
        refine lv_topi (fun v15 ev15 => ?_)
        obtain ⟨v16, ev16⟩ : ∃ y : Int32, y = v15.toInt8.toInt32 := ⟨_, rfl⟩
        refine lv_i2b hx hb dX12_four_18 ev16.symm ?_
        have rv16 : mm_rg v16 (-128) 127 := mm_i2b ev16
        refine va_bast hx hb hK.1 hP hD hS 1 0 rfl rfl (mm_in mm_k2 (by decide)) dX12_four_19 ?_
        clear hP hD hS
        clear H locs
        obtain ⟨g17, eg17⟩ : ∃ z : Nat → Int32, z = upd g11 (2 : Int32).toNatClampNeg (vp_nar .byte v16) := ⟨_, rfl⟩
        rw [← eg17]
        intro H locs (hP : va_P G vwCl [(a_0, .inr (12, [.int k_0, .ref a_1, .ref a_2, .ref a_3, .ref a_4, .ref a_5, .int 2, .int k_1, .int k_2, .int k_3, .int k_4, .long k_5, .int k_6, .int k_7, .int k_8, .int k_9, .ref a_6, .ref a_7, .ref a_8, .ref a_9, .ref a_10, .ref a_11, .ref a_12, .ref a_13, .ref a_14, .ref a_15, .ref a_16, .ref a_17, .ref a_18, .int k_10, .int k_11, .int k_12, .int k_13, .int k_14, .int k_15, .ref a_19, .int k_16, .ref a_20])), (a_5, .inl (cy 0, 600, .inl g17))] H) (hD : va_D A [(a_0, .inr (12, [.int k_0, .ref a_1, .ref a_2, .ref a_3, .ref a_4, .ref a_5, .int 2, .int k_1, .int k_2, .int k_3, .int k_4, .long k_5, .int k_6, .int k_7, .int k_8, .int k_9, .ref a_6, .ref a_7, .ref a_8, .ref a_9, .ref a_10, .ref a_11, .ref a_12, .ref a_13, .ref a_14, .ref a_15, .ref a_16, .ref a_17, .ref a_18, .int k_10, .int k_11, .int k_12, .int k_13, .int k_14, .int k_15, .ref a_19, .int k_16, .ref a_20])), (a_5, .inl (cy 0, 600, .inl g17))]) hS
        have rg17 : mm_ar g17 (-128) 127 := by rw [eg17]; exact mm_ar_upd (mm_ar_wk rg11 (by decide)) (mm_nb _) _
        refine lv_aload_n hx hb dX12_four_20 rfl (lv_at hl 1 rfl) ?_
        refine lv_dup hx hb dX12_four_21 rfl ?_
        refine va_get (D := G) (ci := 12) (v := .int 2) (C := RX12) (T := TX12) (N := 38) hx hb hts (mm_i inlX12) hown hK.1 hP 0 rfl rfl 6 (by decide) (mm_h hts mm_w178) (fun _ h9 => h9) rfl dX12_four_22 ?_
        refine lv_iconst (v := 1) hx hb dX12_four_25 (by decide) ?_
        refine lv_iadd hx hb dX12_four_26 ?_
        refine lv_topi (fun v18 ev18 => ?_)
        obtain rfl : v18 = 3 := ev18.trans (by decide)
        refine va_put (D := G) (ci := 12) (v := .int 3) (ty := tyX12 6) (C := RX12) (T := TX12) (N := 38) hx hb hts (mm_i inlX12) tyX12 tyX12_ok nmX12 hown hK.1 hP hD hS 0 rfl rfl 6 (by decide) (mm_h hts mm_w178) (fun _ h9 => h9) rfl (tyX12_ok 6 (by decide)) rfl rfl (Nat.le_of_ble_eq_true rfl) dX12_four_27 ?_
        clear hP hD hS
        clear H locs
        intro H locs (hP : va_P G vwCl [(a_0, .inr (12, [.int k_0, .ref a_1, .ref a_2, .ref a_3, .ref a_4, .ref a_5, .int 3, .int k_1, .int k_2, .int k_3, .int k_4, .long k_5, .int k_6, .int k_7, .int k_8, .int k_9, .ref a_6, .ref a_7, .ref a_8, .ref a_9, .ref a_10, .ref a_11, .ref a_12, .ref a_13, .ref a_14, .ref a_15, .ref a_16, .ref a_17, .ref a_18, .int k_10, .int k_11, .int k_12, .int k_13, .int k_14, .int k_15, .ref a_19, .int k_16, .ref a_20])), (a_5, .inl (cy 0, 600, .inl g17))] H) (hD : va_D A [(a_0, .inr (12, [.int k_0, .ref a_1, .ref a_2, .ref a_3, .ref a_4, .ref a_5, .int 3, .int k_1, .int k_2, .int k_3, .int k_4, .long k_5, .int k_6, .int k_7, .int k_8, .int k_9, .ref a_6, .ref a_7, .ref a_8, .ref a_9, .ref a_10, .ref a_11, .ref a_12, .ref a_13, .ref a_14, .ref a_15, .ref a_16, .ref a_17, .ref a_18, .int k_10, .int k_11, .int k_12, .int k_13, .int k_14, .int k_15, .ref a_19, .int k_16, .ref a_20])), (a_5, .inl (cy 0, 600, .inl g17))]) hS
        refine lv_iinc (v := 0) (lv' := [(2, .int 0), (0, .ref a_0), (1, .int i_0)]) hx hb dX12_four_30 hl (k := 0) rfl (by decide) (by decide) rfl ?_
        clear hl
        clear ls
        intro ls hl
        refine lv_goto (tgt := 3) hx hb dX12_four_33 (by decide) ?_
        refine lv_iload_n hx hb dX12_four_3 rfl (lv_at hl 0 rfl) ?_
        refine lv_if_lt (tgt := 36) hx hb dX12_four_4 (by decide) (fun c19 => ?_) (fun c19 => ?_)
        · have q20 := mm_ltL (h := (-1)) (mm_lt c19) mm_k0 mm_k0 (by decide)
          exact mm_no q20 (by decide)
        · refine lv_aload_n hx hb dX12_four_7 rfl (lv_at hl 1 rfl) ?_
          refine va_get (D := G) (ci := 12) (v := .ref a_5) (C := RX12) (T := TX12) (N := 38) hx hb hts (mm_i inlX12) hown hK.1 hP 0 rfl rfl 5 (by decide) (mm_h hts mm_w146) (fun _ h9 => h9) rfl dX12_four_8 ?_
          refine lv_aload_n hx hb dX12_four_11 rfl (lv_at hl 1 rfl) ?_
          refine va_get (D := G) (ci := 12) (v := .int 3) (C := RX12) (T := TX12) (N := 38) hx hb hts (mm_i inlX12) hown hK.1 hP 0 rfl rfl 6 (by decide) (mm_h hts mm_w178) (fun _ h9 => h9) rfl dX12_four_12 ?_
          refine lv_iload_n hx hb dX12_four_15 rfl (lv_at hl 2 rfl) ?_
          refine lv_iload_n hx hb dX12_four_16 rfl (lv_at hl 0 rfl) ?_
          refine lv_ishr hx hb dX12_four_17 ?_
          refine lv_topi (fun v21 ev21 => ?_)
          obtain ⟨v22, ev22⟩ : ∃ y : Int32, y = v21.toInt8.toInt32 := ⟨_, rfl⟩
          refine lv_i2b hx hb dX12_four_18 ev22.symm ?_
          have rv22 : mm_rg v22 (-128) 127 := mm_i2b ev22
          refine va_bast hx hb hK.1 hP hD hS 1 0 rfl rfl (mm_in mm_k3 (by decide)) dX12_four_19 ?_
          clear hP hD hS
          clear H locs
          obtain ⟨g23, eg23⟩ : ∃ z : Nat → Int32, z = upd g17 (3 : Int32).toNatClampNeg (vp_nar .byte v22) := ⟨_, rfl⟩
          rw [← eg23]
          intro H locs (hP : va_P G vwCl [(a_0, .inr (12, [.int k_0, .ref a_1, .ref a_2, .ref a_3, .ref a_4, .ref a_5, .int 3, .int k_1, .int k_2, .int k_3, .int k_4, .long k_5, .int k_6, .int k_7, .int k_8, .int k_9, .ref a_6, .ref a_7, .ref a_8, .ref a_9, .ref a_10, .ref a_11, .ref a_12, .ref a_13, .ref a_14, .ref a_15, .ref a_16, .ref a_17, .ref a_18, .int k_10, .int k_11, .int k_12, .int k_13, .int k_14, .int k_15, .ref a_19, .int k_16, .ref a_20])), (a_5, .inl (cy 0, 600, .inl g23))] H) (hD : va_D A [(a_0, .inr (12, [.int k_0, .ref a_1, .ref a_2, .ref a_3, .ref a_4, .ref a_5, .int 3, .int k_1, .int k_2, .int k_3, .int k_4, .long k_5, .int k_6, .int k_7, .int k_8, .int k_9, .ref a_6, .ref a_7, .ref a_8, .ref a_9, .ref a_10, .ref a_11, .ref a_12, .ref a_13, .ref a_14, .ref a_15, .ref a_16, .ref a_17, .ref a_18, .int k_10, .int k_11, .int k_12, .int k_13, .int k_14, .int k_15, .ref a_19, .int k_16, .ref a_20])), (a_5, .inl (cy 0, 600, .inl g23))]) hS
          have rg23 : mm_ar g23 (-128) 127 := by rw [eg23]; exact mm_ar_upd (mm_ar_wk rg17 (by decide)) (mm_nb _) _
          refine lv_aload_n hx hb dX12_four_20 rfl (lv_at hl 1 rfl) ?_
          refine lv_dup hx hb dX12_four_21 rfl ?_
          refine va_get (D := G) (ci := 12) (v := .int 3) (C := RX12) (T := TX12) (N := 38) hx hb hts (mm_i inlX12) hown hK.1 hP 0 rfl rfl 6 (by decide) (mm_h hts mm_w178) (fun _ h9 => h9) rfl dX12_four_22 ?_
          refine lv_iconst (v := 1) hx hb dX12_four_25 (by decide) ?_
          refine lv_iadd hx hb dX12_four_26 ?_
          refine lv_topi (fun v24 ev24 => ?_)
          obtain rfl : v24 = 4 := ev24.trans (by decide)
          refine va_put (D := G) (ci := 12) (v := .int 4) (ty := tyX12 6) (C := RX12) (T := TX12) (N := 38) hx hb hts (mm_i inlX12) tyX12 tyX12_ok nmX12 hown hK.1 hP hD hS 0 rfl rfl 6 (by decide) (mm_h hts mm_w178) (fun _ h9 => h9) rfl (tyX12_ok 6 (by decide)) rfl rfl (Nat.le_of_ble_eq_true rfl) dX12_four_27 ?_
          clear hP hD hS
          clear H locs
          intro H locs (hP : va_P G vwCl [(a_0, .inr (12, [.int k_0, .ref a_1, .ref a_2, .ref a_3, .ref a_4, .ref a_5, .int 4, .int k_1, .int k_2, .int k_3, .int k_4, .long k_5, .int k_6, .int k_7, .int k_8, .int k_9, .ref a_6, .ref a_7, .ref a_8, .ref a_9, .ref a_10, .ref a_11, .ref a_12, .ref a_13, .ref a_14, .ref a_15, .ref a_16, .ref a_17, .ref a_18, .int k_10, .int k_11, .int k_12, .int k_13, .int k_14, .int k_15, .ref a_19, .int k_16, .ref a_20])), (a_5, .inl (cy 0, 600, .inl g23))] H) (hD : va_D A [(a_0, .inr (12, [.int k_0, .ref a_1, .ref a_2, .ref a_3, .ref a_4, .ref a_5, .int 4, .int k_1, .int k_2, .int k_3, .int k_4, .long k_5, .int k_6, .int k_7, .int k_8, .int k_9, .ref a_6, .ref a_7, .ref a_8, .ref a_9, .ref a_10, .ref a_11, .ref a_12, .ref a_13, .ref a_14, .ref a_15, .ref a_16, .ref a_17, .ref a_18, .int k_10, .int k_11, .int k_12, .int k_13, .int k_14, .int k_15, .ref a_19, .int k_16, .ref a_20])), (a_5, .inl (cy 0, 600, .inl g23))]) hS
          refine lv_iinc (v := (-8)) (lv' := [(2, .int (-8)), (0, .ref a_0), (1, .int i_0)]) hx hb dX12_four_30 hl (k := 0) rfl (by decide) (by decide) rfl ?_
          clear hl
          clear ls
          intro ls hl
          refine lv_goto (tgt := 3) hx hb dX12_four_33 (by decide) ?_
          refine lv_iload_n hx hb dX12_four_3 rfl (lv_at hl 0 rfl) ?_
          refine lv_if_lt (tgt := 36) hx hb dX12_four_4 (by decide) (fun c25 => ?_) (fun c25 => ?_)
          · subst hAe
            rw [hQ]
            exact W.vret hx hb hr (fun t ht hW => ⟨⟨g23, rfl, rg23, by rw [ht]; exact hP, hK.warm hW, hD⟩, hS.F ht⟩) hS.2.2 dX12_four_36
          · have q26 := mm_leL (mm_nlt c25) mm_k0 mm_km8
            exact mm_no q26 (by decide)

set_option maxHeartbeats 4000000 in
set_option maxRecDepth 100000 in
theorem K21_X12_four (l : Launch) (G : va_G) (cy : Nat → ClassId) (sz : Nat) (a_0 : Nat) (i_0 : Int32) (k_0 : Int32) (a_1 : Nat) (a_2 : Nat) (a_3 : Nat) (a_4 : Nat) (a_5 : Nat) (k_1 : Int32) (k_2 : Int32) (k_3 : Int32) (k_4 : Int32) (k_5 : Int64) (k_6 : Int32) (k_7 : Int32) (k_8 : Int32) (k_9 : Int32) (a_6 : Nat) (a_7 : Nat) (a_8 : Nat) (a_9 : Nat) (a_10 : Nat) (a_11 : Nat) (a_12 : Nat) (a_13 : Nat) (a_14 : Nat) (a_15 : Nat) (a_16 : Nat) (a_17 : Nat) (a_18 : Nat) (k_10 : Int32) (k_11 : Int32) (k_12 : Int32) (k_13 : Int32) (k_14 : Int32) (k_15 : Int32) (a_19 : Nat) (k_16 : Int32) (a_20 : Nat) (f_0 : Nat → Int32) (h0 : mm_ar f_0 (-128) 127)  : mm_CV l yX12_four (mm_ws yX12_four cX12_four 3 (none)) ({ frames := 0, cells := 0, slots := 0, locals := 0 } : Room) G cy sz [(a_0, .inr (12, [.int k_0, .ref a_1, .ref a_2, .ref a_3, .ref a_4, .ref a_5, .int 4, .int k_1, .int k_2, .int k_3, .int k_4, .long k_5, .int k_6, .int k_7, .int k_8, .int k_9, .ref a_6, .ref a_7, .ref a_8, .ref a_9, .ref a_10, .ref a_11, .ref a_12, .ref a_13, .ref a_14, .ref a_15, .ref a_16, .ref a_17, .ref a_18, .int k_10, .int k_11, .int k_12, .int k_13, .int k_14, .int k_15, .ref a_19, .int k_16, .ref a_20])), (a_5, .inl (cy 0, 600, .inl f_0))] [.ref a_0, .int i_0] (fun u : (Nat → Int32) => [(a_0, .inr (12, [.int k_0, .ref a_1, .ref a_2, .ref a_3, .ref a_4, .ref a_5, .int 8, .int k_1, .int k_2, .int k_3, .int k_4, .long k_5, .int k_6, .int k_7, .int k_8, .int k_9, .ref a_6, .ref a_7, .ref a_8, .ref a_9, .ref a_10, .ref a_11, .ref a_12, .ref a_13, .ref a_14, .ref a_15, .ref a_16, .ref a_17, .ref a_18, .int k_10, .int k_11, .int k_12, .int k_13, .int k_14, .int k_15, .ref a_19, .int k_16, .ref a_20])), (a_5, .inl (cy 0, 600, .inl u))]) (fun u : (Nat → Int32) => mm_ar u (-128) 127) 0 0 := by
  refine mm_begin (lv := [(0, .ref a_0), (1, .int i_0)]) (by decide) (Nat.le_of_ble_eq_true rfl) rfl ?_
  intro p e s m below meth c A ls R args Q H locs hRe hQ hAe hx hb hr hlocks hml hown hnm hts hsz hA hS hP hK hD hl
  have hRf : R.frames = 0 := by rw [hRe]
  have hRl : R.locals = 0 := by rw [hRe]
  have hRc : R.cells = 0 := by rw [hRe]
  have hRs : R.slots = 0 := by rw [hRe]
  refine lv_bipush (v := 24) hx hb dX12_four_0 (by decide) ?_
  refine lv_istore_n (lv' := [(2, .int 24), (0, .ref a_0), (1, .int i_0)]) hx hb dX12_four_2 rfl hl (by decide) rfl ?_
  clear hl
  clear ls
  intro ls hl
  refine lv_iload_n hx hb dX12_four_3 rfl (lv_at hl 0 rfl) ?_
  refine lv_if_lt (tgt := 36) hx hb dX12_four_4 (by decide) (fun c1 => ?_) (fun c1 => ?_)
  · have q2 := mm_ltL (h := (-1)) (mm_lt c1) mm_k24 mm_k0 (by decide)
    exact mm_no q2 (by decide)
  · refine lv_aload_n hx hb dX12_four_7 rfl (lv_at hl 1 rfl) ?_
    refine va_get (D := G) (ci := 12) (v := .ref a_5) (C := RX12) (T := TX12) (N := 38) hx hb hts (mm_i inlX12) hown hK.1 hP 0 rfl rfl 5 (by decide) (mm_h hts mm_w146) (fun _ h9 => h9) rfl dX12_four_8 ?_
    refine lv_aload_n hx hb dX12_four_11 rfl (lv_at hl 1 rfl) ?_
    refine va_get (D := G) (ci := 12) (v := .int 4) (C := RX12) (T := TX12) (N := 38) hx hb hts (mm_i inlX12) hown hK.1 hP 0 rfl rfl 6 (by decide) (mm_h hts mm_w178) (fun _ h9 => h9) rfl dX12_four_12 ?_
    refine lv_iload_n hx hb dX12_four_15 rfl (lv_at hl 2 rfl) ?_
    refine lv_iload_n hx hb dX12_four_16 rfl (lv_at hl 0 rfl) ?_
    refine lv_ishr hx hb dX12_four_17 ?_
    refine lv_topi (fun v3 ev3 => ?_)
    obtain ⟨v4, ev4⟩ : ∃ y : Int32, y = v3.toInt8.toInt32 := ⟨_, rfl⟩
    refine lv_i2b hx hb dX12_four_18 ev4.symm ?_
    have rv4 : mm_rg v4 (-128) 127 := mm_i2b ev4
    refine va_bast hx hb hK.1 hP hD hS 1 0 rfl rfl (mm_in mm_k4 (by decide)) dX12_four_19 ?_
    clear hP hD hS
    clear H locs
    obtain ⟨g5, eg5⟩ : ∃ z : Nat → Int32, z = upd f_0 (4 : Int32).toNatClampNeg (vp_nar .byte v4) := ⟨_, rfl⟩
    rw [← eg5]
    intro H locs (hP : va_P G vwCl [(a_0, .inr (12, [.int k_0, .ref a_1, .ref a_2, .ref a_3, .ref a_4, .ref a_5, .int 4, .int k_1, .int k_2, .int k_3, .int k_4, .long k_5, .int k_6, .int k_7, .int k_8, .int k_9, .ref a_6, .ref a_7, .ref a_8, .ref a_9, .ref a_10, .ref a_11, .ref a_12, .ref a_13, .ref a_14, .ref a_15, .ref a_16, .ref a_17, .ref a_18, .int k_10, .int k_11, .int k_12, .int k_13, .int k_14, .int k_15, .ref a_19, .int k_16, .ref a_20])), (a_5, .inl (cy 0, 600, .inl g5))] H) (hD : va_D A [(a_0, .inr (12, [.int k_0, .ref a_1, .ref a_2, .ref a_3, .ref a_4, .ref a_5, .int 4, .int k_1, .int k_2, .int k_3, .int k_4, .long k_5, .int k_6, .int k_7, .int k_8, .int k_9, .ref a_6, .ref a_7, .ref a_8, .ref a_9, .ref a_10, .ref a_11, .ref a_12, .ref a_13, .ref a_14, .ref a_15, .ref a_16, .ref a_17, .ref a_18, .int k_10, .int k_11, .int k_12, .int k_13, .int k_14, .int k_15, .ref a_19, .int k_16, .ref a_20])), (a_5, .inl (cy 0, 600, .inl g5))]) hS
    have rg5 : mm_ar g5 (-128) 127 := by rw [eg5]; exact mm_ar_upd (mm_ar_wk h0 (by decide)) (mm_nb _) _
    refine lv_aload_n hx hb dX12_four_20 rfl (lv_at hl 1 rfl) ?_
    refine lv_dup hx hb dX12_four_21 rfl ?_
    refine va_get (D := G) (ci := 12) (v := .int 4) (C := RX12) (T := TX12) (N := 38) hx hb hts (mm_i inlX12) hown hK.1 hP 0 rfl rfl 6 (by decide) (mm_h hts mm_w178) (fun _ h9 => h9) rfl dX12_four_22 ?_
    refine lv_iconst (v := 1) hx hb dX12_four_25 (by decide) ?_
    refine lv_iadd hx hb dX12_four_26 ?_
    refine lv_topi (fun v6 ev6 => ?_)
    obtain rfl : v6 = 5 := ev6.trans (by decide)
    refine va_put (D := G) (ci := 12) (v := .int 5) (ty := tyX12 6) (C := RX12) (T := TX12) (N := 38) hx hb hts (mm_i inlX12) tyX12 tyX12_ok nmX12 hown hK.1 hP hD hS 0 rfl rfl 6 (by decide) (mm_h hts mm_w178) (fun _ h9 => h9) rfl (tyX12_ok 6 (by decide)) rfl rfl (Nat.le_of_ble_eq_true rfl) dX12_four_27 ?_
    clear hP hD hS
    clear H locs
    intro H locs (hP : va_P G vwCl [(a_0, .inr (12, [.int k_0, .ref a_1, .ref a_2, .ref a_3, .ref a_4, .ref a_5, .int 5, .int k_1, .int k_2, .int k_3, .int k_4, .long k_5, .int k_6, .int k_7, .int k_8, .int k_9, .ref a_6, .ref a_7, .ref a_8, .ref a_9, .ref a_10, .ref a_11, .ref a_12, .ref a_13, .ref a_14, .ref a_15, .ref a_16, .ref a_17, .ref a_18, .int k_10, .int k_11, .int k_12, .int k_13, .int k_14, .int k_15, .ref a_19, .int k_16, .ref a_20])), (a_5, .inl (cy 0, 600, .inl g5))] H) (hD : va_D A [(a_0, .inr (12, [.int k_0, .ref a_1, .ref a_2, .ref a_3, .ref a_4, .ref a_5, .int 5, .int k_1, .int k_2, .int k_3, .int k_4, .long k_5, .int k_6, .int k_7, .int k_8, .int k_9, .ref a_6, .ref a_7, .ref a_8, .ref a_9, .ref a_10, .ref a_11, .ref a_12, .ref a_13, .ref a_14, .ref a_15, .ref a_16, .ref a_17, .ref a_18, .int k_10, .int k_11, .int k_12, .int k_13, .int k_14, .int k_15, .ref a_19, .int k_16, .ref a_20])), (a_5, .inl (cy 0, 600, .inl g5))]) hS
    refine lv_iinc (v := 16) (lv' := [(2, .int 16), (0, .ref a_0), (1, .int i_0)]) hx hb dX12_four_30 hl (k := 0) rfl (by decide) (by decide) rfl ?_
    clear hl
    clear ls
    intro ls hl
    refine lv_goto (tgt := 3) hx hb dX12_four_33 (by decide) ?_
    refine lv_iload_n hx hb dX12_four_3 rfl (lv_at hl 0 rfl) ?_
    refine lv_if_lt (tgt := 36) hx hb dX12_four_4 (by decide) (fun c7 => ?_) (fun c7 => ?_)
    · have q8 := mm_ltL (h := (-1)) (mm_lt c7) mm_k16 mm_k0 (by decide)
      exact mm_no q8 (by decide)
    · refine lv_aload_n hx hb dX12_four_7 rfl (lv_at hl 1 rfl) ?_
      refine va_get (D := G) (ci := 12) (v := .ref a_5) (C := RX12) (T := TX12) (N := 38) hx hb hts (mm_i inlX12) hown hK.1 hP 0 rfl rfl 5 (by decide) (mm_h hts mm_w146) (fun _ h9 => h9) rfl dX12_four_8 ?_
      refine lv_aload_n hx hb dX12_four_11 rfl (lv_at hl 1 rfl) ?_
      refine va_get (D := G) (ci := 12) (v := .int 5) (C := RX12) (T := TX12) (N := 38) hx hb hts (mm_i inlX12) hown hK.1 hP 0 rfl rfl 6 (by decide) (mm_h hts mm_w178) (fun _ h9 => h9) rfl dX12_four_12 ?_
      refine lv_iload_n hx hb dX12_four_15 rfl (lv_at hl 2 rfl) ?_
      refine lv_iload_n hx hb dX12_four_16 rfl (lv_at hl 0 rfl) ?_
      refine lv_ishr hx hb dX12_four_17 ?_
      refine lv_topi (fun v9 ev9 => ?_)
      obtain ⟨v10, ev10⟩ : ∃ y : Int32, y = v9.toInt8.toInt32 := ⟨_, rfl⟩
      refine lv_i2b hx hb dX12_four_18 ev10.symm ?_
      have rv10 : mm_rg v10 (-128) 127 := mm_i2b ev10
      refine va_bast hx hb hK.1 hP hD hS 1 0 rfl rfl (mm_in mm_k5 (by decide)) dX12_four_19 ?_
      clear hP hD hS
      clear H locs
      obtain ⟨g11, eg11⟩ : ∃ z : Nat → Int32, z = upd g5 (5 : Int32).toNatClampNeg (vp_nar .byte v10) := ⟨_, rfl⟩
      rw [← eg11]
      intro H locs (hP : va_P G vwCl [(a_0, .inr (12, [.int k_0, .ref a_1, .ref a_2, .ref a_3, .ref a_4, .ref a_5, .int 5, .int k_1, .int k_2, .int k_3, .int k_4, .long k_5, .int k_6, .int k_7, .int k_8, .int k_9, .ref a_6, .ref a_7, .ref a_8, .ref a_9, .ref a_10, .ref a_11, .ref a_12, .ref a_13, .ref a_14, .ref a_15, .ref a_16, .ref a_17, .ref a_18, .int k_10, .int k_11, .int k_12, .int k_13, .int k_14, .int k_15, .ref a_19, .int k_16, .ref a_20])), (a_5, .inl (cy 0, 600, .inl g11))] H) (hD : va_D A [(a_0, .inr (12, [.int k_0, .ref a_1, .ref a_2, .ref a_3, .ref a_4, .ref a_5, .int 5, .int k_1, .int k_2, .int k_3, .int k_4, .long k_5, .int k_6, .int k_7, .int k_8, .int k_9, .ref a_6, .ref a_7, .ref a_8, .ref a_9, .ref a_10, .ref a_11, .ref a_12, .ref a_13, .ref a_14, .ref a_15, .ref a_16, .ref a_17, .ref a_18, .int k_10, .int k_11, .int k_12, .int k_13, .int k_14, .int k_15, .ref a_19, .int k_16, .ref a_20])), (a_5, .inl (cy 0, 600, .inl g11))]) hS
      have rg11 : mm_ar g11 (-128) 127 := by rw [eg11]; exact mm_ar_upd (mm_ar_wk rg5 (by decide)) (mm_nb _) _
      refine lv_aload_n hx hb dX12_four_20 rfl (lv_at hl 1 rfl) ?_
      refine lv_dup hx hb dX12_four_21 rfl ?_
      refine va_get (D := G) (ci := 12) (v := .int 5) (C := RX12) (T := TX12) (N := 38) hx hb hts (mm_i inlX12) hown hK.1 hP 0 rfl rfl 6 (by decide) (mm_h hts mm_w178) (fun _ h9 => h9) rfl dX12_four_22 ?_
      refine lv_iconst (v := 1) hx hb dX12_four_25 (by decide) ?_
      refine lv_iadd hx hb dX12_four_26 ?_
      refine lv_topi (fun v12 ev12 => ?_)
      obtain rfl : v12 = 6 := ev12.trans (by decide)
      refine va_put (D := G) (ci := 12) (v := .int 6) (ty := tyX12 6) (C := RX12) (T := TX12) (N := 38) hx hb hts (mm_i inlX12) tyX12 tyX12_ok nmX12 hown hK.1 hP hD hS 0 rfl rfl 6 (by decide) (mm_h hts mm_w178) (fun _ h9 => h9) rfl (tyX12_ok 6 (by decide)) rfl rfl (Nat.le_of_ble_eq_true rfl) dX12_four_27 ?_
      clear hP hD hS
      clear H locs
      intro H locs (hP : va_P G vwCl [(a_0, .inr (12, [.int k_0, .ref a_1, .ref a_2, .ref a_3, .ref a_4, .ref a_5, .int 6, .int k_1, .int k_2, .int k_3, .int k_4, .long k_5, .int k_6, .int k_7, .int k_8, .int k_9, .ref a_6, .ref a_7, .ref a_8, .ref a_9, .ref a_10, .ref a_11, .ref a_12, .ref a_13, .ref a_14, .ref a_15, .ref a_16, .ref a_17, .ref a_18, .int k_10, .int k_11, .int k_12, .int k_13, .int k_14, .int k_15, .ref a_19, .int k_16, .ref a_20])), (a_5, .inl (cy 0, 600, .inl g11))] H) (hD : va_D A [(a_0, .inr (12, [.int k_0, .ref a_1, .ref a_2, .ref a_3, .ref a_4, .ref a_5, .int 6, .int k_1, .int k_2, .int k_3, .int k_4, .long k_5, .int k_6, .int k_7, .int k_8, .int k_9, .ref a_6, .ref a_7, .ref a_8, .ref a_9, .ref a_10, .ref a_11, .ref a_12, .ref a_13, .ref a_14, .ref a_15, .ref a_16, .ref a_17, .ref a_18, .int k_10, .int k_11, .int k_12, .int k_13, .int k_14, .int k_15, .ref a_19, .int k_16, .ref a_20])), (a_5, .inl (cy 0, 600, .inl g11))]) hS
      refine lv_iinc (v := 8) (lv' := [(2, .int 8), (0, .ref a_0), (1, .int i_0)]) hx hb dX12_four_30 hl (k := 0) rfl (by decide) (by decide) rfl ?_
      clear hl
      clear ls
      intro ls hl
      refine lv_goto (tgt := 3) hx hb dX12_four_33 (by decide) ?_
      refine lv_iload_n hx hb dX12_four_3 rfl (lv_at hl 0 rfl) ?_
      refine lv_if_lt (tgt := 36) hx hb dX12_four_4 (by decide) (fun c13 => ?_) (fun c13 => ?_)
      · have q14 := mm_ltL (h := (-1)) (mm_lt c13) mm_k8 mm_k0 (by decide)
        exact mm_no q14 (by decide)
      · refine lv_aload_n hx hb dX12_four_7 rfl (lv_at hl 1 rfl) ?_
        refine va_get (D := G) (ci := 12) (v := .ref a_5) (C := RX12) (T := TX12) (N := 38) hx hb hts (mm_i inlX12) hown hK.1 hP 0 rfl rfl 5 (by decide) (mm_h hts mm_w146) (fun _ h9 => h9) rfl dX12_four_8 ?_
        refine lv_aload_n hx hb dX12_four_11 rfl (lv_at hl 1 rfl) ?_
        refine va_get (D := G) (ci := 12) (v := .int 6) (C := RX12) (T := TX12) (N := 38) hx hb hts (mm_i inlX12) hown hK.1 hP 0 rfl rfl 6 (by decide) (mm_h hts mm_w178) (fun _ h9 => h9) rfl dX12_four_12 ?_
        refine lv_iload_n hx hb dX12_four_15 rfl (lv_at hl 2 rfl) ?_
        refine lv_iload_n hx hb dX12_four_16 rfl (lv_at hl 0 rfl) ?_
        refine lv_ishr hx hb dX12_four_17 ?_
        refine lv_topi (fun v15 ev15 => ?_)
        obtain ⟨v16, ev16⟩ : ∃ y : Int32, y = v15.toInt8.toInt32 := ⟨_, rfl⟩
        refine lv_i2b hx hb dX12_four_18 ev16.symm ?_
        have rv16 : mm_rg v16 (-128) 127 := mm_i2b ev16
        refine va_bast hx hb hK.1 hP hD hS 1 0 rfl rfl (mm_in mm_k6 (by decide)) dX12_four_19 ?_
        clear hP hD hS
        clear H locs
        obtain ⟨g17, eg17⟩ : ∃ z : Nat → Int32, z = upd g11 (6 : Int32).toNatClampNeg (vp_nar .byte v16) := ⟨_, rfl⟩
        rw [← eg17]
        intro H locs (hP : va_P G vwCl [(a_0, .inr (12, [.int k_0, .ref a_1, .ref a_2, .ref a_3, .ref a_4, .ref a_5, .int 6, .int k_1, .int k_2, .int k_3, .int k_4, .long k_5, .int k_6, .int k_7, .int k_8, .int k_9, .ref a_6, .ref a_7, .ref a_8, .ref a_9, .ref a_10, .ref a_11, .ref a_12, .ref a_13, .ref a_14, .ref a_15, .ref a_16, .ref a_17, .ref a_18, .int k_10, .int k_11, .int k_12, .int k_13, .int k_14, .int k_15, .ref a_19, .int k_16, .ref a_20])), (a_5, .inl (cy 0, 600, .inl g17))] H) (hD : va_D A [(a_0, .inr (12, [.int k_0, .ref a_1, .ref a_2, .ref a_3, .ref a_4, .ref a_5, .int 6, .int k_1, .int k_2, .int k_3, .int k_4, .long k_5, .int k_6, .int k_7, .int k_8, .int k_9, .ref a_6, .ref a_7, .ref a_8, .ref a_9, .ref a_10, .ref a_11, .ref a_12, .ref a_13, .ref a_14, .ref a_15, .ref a_16, .ref a_17, .ref a_18, .int k_10, .int k_11, .int k_12, .int k_13, .int k_14, .int k_15, .ref a_19, .int k_16, .ref a_20])), (a_5, .inl (cy 0, 600, .inl g17))]) hS
        have rg17 : mm_ar g17 (-128) 127 := by rw [eg17]; exact mm_ar_upd (mm_ar_wk rg11 (by decide)) (mm_nb _) _
        refine lv_aload_n hx hb dX12_four_20 rfl (lv_at hl 1 rfl) ?_
        refine lv_dup hx hb dX12_four_21 rfl ?_
        refine va_get (D := G) (ci := 12) (v := .int 6) (C := RX12) (T := TX12) (N := 38) hx hb hts (mm_i inlX12) hown hK.1 hP 0 rfl rfl 6 (by decide) (mm_h hts mm_w178) (fun _ h9 => h9) rfl dX12_four_22 ?_
        refine lv_iconst (v := 1) hx hb dX12_four_25 (by decide) ?_
        refine lv_iadd hx hb dX12_four_26 ?_
        refine lv_topi (fun v18 ev18 => ?_)
        obtain rfl : v18 = 7 := ev18.trans (by decide)
        refine va_put (D := G) (ci := 12) (v := .int 7) (ty := tyX12 6) (C := RX12) (T := TX12) (N := 38) hx hb hts (mm_i inlX12) tyX12 tyX12_ok nmX12 hown hK.1 hP hD hS 0 rfl rfl 6 (by decide) (mm_h hts mm_w178) (fun _ h9 => h9) rfl (tyX12_ok 6 (by decide)) rfl rfl (Nat.le_of_ble_eq_true rfl) dX12_four_27 ?_
        clear hP hD hS
        clear H locs
        intro H locs (hP : va_P G vwCl [(a_0, .inr (12, [.int k_0, .ref a_1, .ref a_2, .ref a_3, .ref a_4, .ref a_5, .int 7, .int k_1, .int k_2, .int k_3, .int k_4, .long k_5, .int k_6, .int k_7, .int k_8, .int k_9, .ref a_6, .ref a_7, .ref a_8, .ref a_9, .ref a_10, .ref a_11, .ref a_12, .ref a_13, .ref a_14, .ref a_15, .ref a_16, .ref a_17, .ref a_18, .int k_10, .int k_11, .int k_12, .int k_13, .int k_14, .int k_15, .ref a_19, .int k_16, .ref a_20])), (a_5, .inl (cy 0, 600, .inl g17))] H) (hD : va_D A [(a_0, .inr (12, [.int k_0, .ref a_1, .ref a_2, .ref a_3, .ref a_4, .ref a_5, .int 7, .int k_1, .int k_2, .int k_3, .int k_4, .long k_5, .int k_6, .int k_7, .int k_8, .int k_9, .ref a_6, .ref a_7, .ref a_8, .ref a_9, .ref a_10, .ref a_11, .ref a_12, .ref a_13, .ref a_14, .ref a_15, .ref a_16, .ref a_17, .ref a_18, .int k_10, .int k_11, .int k_12, .int k_13, .int k_14, .int k_15, .ref a_19, .int k_16, .ref a_20])), (a_5, .inl (cy 0, 600, .inl g17))]) hS
        refine lv_iinc (v := 0) (lv' := [(2, .int 0), (0, .ref a_0), (1, .int i_0)]) hx hb dX12_four_30 hl (k := 0) rfl (by decide) (by decide) rfl ?_
        clear hl
        clear ls
        intro ls hl
        refine lv_goto (tgt := 3) hx hb dX12_four_33 (by decide) ?_
        refine lv_iload_n hx hb dX12_four_3 rfl (lv_at hl 0 rfl) ?_
        refine lv_if_lt (tgt := 36) hx hb dX12_four_4 (by decide) (fun c19 => ?_) (fun c19 => ?_)
        · have q20 := mm_ltL (h := (-1)) (mm_lt c19) mm_k0 mm_k0 (by decide)
          exact mm_no q20 (by decide)
        · refine lv_aload_n hx hb dX12_four_7 rfl (lv_at hl 1 rfl) ?_
          refine va_get (D := G) (ci := 12) (v := .ref a_5) (C := RX12) (T := TX12) (N := 38) hx hb hts (mm_i inlX12) hown hK.1 hP 0 rfl rfl 5 (by decide) (mm_h hts mm_w146) (fun _ h9 => h9) rfl dX12_four_8 ?_
          refine lv_aload_n hx hb dX12_four_11 rfl (lv_at hl 1 rfl) ?_
          refine va_get (D := G) (ci := 12) (v := .int 7) (C := RX12) (T := TX12) (N := 38) hx hb hts (mm_i inlX12) hown hK.1 hP 0 rfl rfl 6 (by decide) (mm_h hts mm_w178) (fun _ h9 => h9) rfl dX12_four_12 ?_
          refine lv_iload_n hx hb dX12_four_15 rfl (lv_at hl 2 rfl) ?_
          refine lv_iload_n hx hb dX12_four_16 rfl (lv_at hl 0 rfl) ?_
          refine lv_ishr hx hb dX12_four_17 ?_
          refine lv_topi (fun v21 ev21 => ?_)
          obtain ⟨v22, ev22⟩ : ∃ y : Int32, y = v21.toInt8.toInt32 := ⟨_, rfl⟩
          refine lv_i2b hx hb dX12_four_18 ev22.symm ?_
          have rv22 : mm_rg v22 (-128) 127 := mm_i2b ev22
          refine va_bast hx hb hK.1 hP hD hS 1 0 rfl rfl (mm_in mm_k7 (by decide)) dX12_four_19 ?_
          clear hP hD hS
          clear H locs
          obtain ⟨g23, eg23⟩ : ∃ z : Nat → Int32, z = upd g17 (7 : Int32).toNatClampNeg (vp_nar .byte v22) := ⟨_, rfl⟩
          rw [← eg23]
          intro H locs (hP : va_P G vwCl [(a_0, .inr (12, [.int k_0, .ref a_1, .ref a_2, .ref a_3, .ref a_4, .ref a_5, .int 7, .int k_1, .int k_2, .int k_3, .int k_4, .long k_5, .int k_6, .int k_7, .int k_8, .int k_9, .ref a_6, .ref a_7, .ref a_8, .ref a_9, .ref a_10, .ref a_11, .ref a_12, .ref a_13, .ref a_14, .ref a_15, .ref a_16, .ref a_17, .ref a_18, .int k_10, .int k_11, .int k_12, .int k_13, .int k_14, .int k_15, .ref a_19, .int k_16, .ref a_20])), (a_5, .inl (cy 0, 600, .inl g23))] H) (hD : va_D A [(a_0, .inr (12, [.int k_0, .ref a_1, .ref a_2, .ref a_3, .ref a_4, .ref a_5, .int 7, .int k_1, .int k_2, .int k_3, .int k_4, .long k_5, .int k_6, .int k_7, .int k_8, .int k_9, .ref a_6, .ref a_7, .ref a_8, .ref a_9, .ref a_10, .ref a_11, .ref a_12, .ref a_13, .ref a_14, .ref a_15, .ref a_16, .ref a_17, .ref a_18, .int k_10, .int k_11, .int k_12, .int k_13, .int k_14, .int k_15, .ref a_19, .int k_16, .ref a_20])), (a_5, .inl (cy 0, 600, .inl g23))]) hS
          have rg23 : mm_ar g23 (-128) 127 := by rw [eg23]; exact mm_ar_upd (mm_ar_wk rg17 (by decide)) (mm_nb _) _
          refine lv_aload_n hx hb dX12_four_20 rfl (lv_at hl 1 rfl) ?_
          refine lv_dup hx hb dX12_four_21 rfl ?_
          refine va_get (D := G) (ci := 12) (v := .int 7) (C := RX12) (T := TX12) (N := 38) hx hb hts (mm_i inlX12) hown hK.1 hP 0 rfl rfl 6 (by decide) (mm_h hts mm_w178) (fun _ h9 => h9) rfl dX12_four_22 ?_
          refine lv_iconst (v := 1) hx hb dX12_four_25 (by decide) ?_
          refine lv_iadd hx hb dX12_four_26 ?_
          refine lv_topi (fun v24 ev24 => ?_)
          obtain rfl : v24 = 8 := ev24.trans (by decide)
          refine va_put (D := G) (ci := 12) (v := .int 8) (ty := tyX12 6) (C := RX12) (T := TX12) (N := 38) hx hb hts (mm_i inlX12) tyX12 tyX12_ok nmX12 hown hK.1 hP hD hS 0 rfl rfl 6 (by decide) (mm_h hts mm_w178) (fun _ h9 => h9) rfl (tyX12_ok 6 (by decide)) rfl rfl (Nat.le_of_ble_eq_true rfl) dX12_four_27 ?_
          clear hP hD hS
          clear H locs
          intro H locs (hP : va_P G vwCl [(a_0, .inr (12, [.int k_0, .ref a_1, .ref a_2, .ref a_3, .ref a_4, .ref a_5, .int 8, .int k_1, .int k_2, .int k_3, .int k_4, .long k_5, .int k_6, .int k_7, .int k_8, .int k_9, .ref a_6, .ref a_7, .ref a_8, .ref a_9, .ref a_10, .ref a_11, .ref a_12, .ref a_13, .ref a_14, .ref a_15, .ref a_16, .ref a_17, .ref a_18, .int k_10, .int k_11, .int k_12, .int k_13, .int k_14, .int k_15, .ref a_19, .int k_16, .ref a_20])), (a_5, .inl (cy 0, 600, .inl g23))] H) (hD : va_D A [(a_0, .inr (12, [.int k_0, .ref a_1, .ref a_2, .ref a_3, .ref a_4, .ref a_5, .int 8, .int k_1, .int k_2, .int k_3, .int k_4, .long k_5, .int k_6, .int k_7, .int k_8, .int k_9, .ref a_6, .ref a_7, .ref a_8, .ref a_9, .ref a_10, .ref a_11, .ref a_12, .ref a_13, .ref a_14, .ref a_15, .ref a_16, .ref a_17, .ref a_18, .int k_10, .int k_11, .int k_12, .int k_13, .int k_14, .int k_15, .ref a_19, .int k_16, .ref a_20])), (a_5, .inl (cy 0, 600, .inl g23))]) hS
          refine lv_iinc (v := (-8)) (lv' := [(2, .int (-8)), (0, .ref a_0), (1, .int i_0)]) hx hb dX12_four_30 hl (k := 0) rfl (by decide) (by decide) rfl ?_
          clear hl
          clear ls
          intro ls hl
          refine lv_goto (tgt := 3) hx hb dX12_four_33 (by decide) ?_
          refine lv_iload_n hx hb dX12_four_3 rfl (lv_at hl 0 rfl) ?_
          refine lv_if_lt (tgt := 36) hx hb dX12_four_4 (by decide) (fun c25 => ?_) (fun c25 => ?_)
          · subst hAe
            rw [hQ]
            exact W.vret hx hb hr (fun t ht hW => ⟨⟨g23, rfl, rg23, by rw [ht]; exact hP, hK.warm hW, hD⟩, hS.F ht⟩) hS.2.2 dX12_four_36
          · have q26 := mm_leL (mm_nlt c25) mm_k0 mm_km8
            exact mm_no q26 (by decide)

set_option maxHeartbeats 4000000 in
set_option maxRecDepth 100000 in
theorem K22_X12_four (l : Launch) (G : va_G) (cy : Nat → ClassId) (sz : Nat) (a_0 : Nat) (i_0 : Int32) (k_0 : Int32) (a_1 : Nat) (a_2 : Nat) (a_3 : Nat) (a_4 : Nat) (a_5 : Nat) (k_1 : Int32) (k_2 : Int32) (k_3 : Int32) (k_4 : Int32) (k_5 : Int64) (k_6 : Int32) (k_7 : Int32) (k_8 : Int32) (k_9 : Int32) (a_6 : Nat) (a_7 : Nat) (a_8 : Nat) (a_9 : Nat) (a_10 : Nat) (a_11 : Nat) (a_12 : Nat) (a_13 : Nat) (a_14 : Nat) (a_15 : Nat) (a_16 : Nat) (a_17 : Nat) (a_18 : Nat) (k_10 : Int32) (k_11 : Int32) (k_12 : Int32) (k_13 : Int32) (k_14 : Int32) (k_15 : Int32) (a_19 : Nat) (k_16 : Int32) (a_20 : Nat) (f_0 : Nat → Int32) (h0 : mm_ar f_0 (-128) 127)  : mm_CV l yX12_four (mm_ws yX12_four cX12_four 3 (none)) ({ frames := 0, cells := 0, slots := 0, locals := 0 } : Room) G cy sz [(a_0, .inr (12, [.int k_0, .ref a_1, .ref a_2, .ref a_3, .ref a_4, .ref a_5, .int 8, .int k_1, .int k_2, .int k_3, .int k_4, .long k_5, .int k_6, .int k_7, .int k_8, .int k_9, .ref a_6, .ref a_7, .ref a_8, .ref a_9, .ref a_10, .ref a_11, .ref a_12, .ref a_13, .ref a_14, .ref a_15, .ref a_16, .ref a_17, .ref a_18, .int k_10, .int k_11, .int k_12, .int k_13, .int k_14, .int k_15, .ref a_19, .int k_16, .ref a_20])), (a_5, .inl (cy 0, 600, .inl f_0))] [.ref a_0, .int i_0] (fun u : (Nat → Int32) => [(a_0, .inr (12, [.int k_0, .ref a_1, .ref a_2, .ref a_3, .ref a_4, .ref a_5, .int 12, .int k_1, .int k_2, .int k_3, .int k_4, .long k_5, .int k_6, .int k_7, .int k_8, .int k_9, .ref a_6, .ref a_7, .ref a_8, .ref a_9, .ref a_10, .ref a_11, .ref a_12, .ref a_13, .ref a_14, .ref a_15, .ref a_16, .ref a_17, .ref a_18, .int k_10, .int k_11, .int k_12, .int k_13, .int k_14, .int k_15, .ref a_19, .int k_16, .ref a_20])), (a_5, .inl (cy 0, 600, .inl u))]) (fun u : (Nat → Int32) => mm_ar u (-128) 127) 0 0 := by
  refine mm_begin (lv := [(0, .ref a_0), (1, .int i_0)]) (by decide) (Nat.le_of_ble_eq_true rfl) rfl ?_
  intro p e s m below meth c A ls R args Q H locs hRe hQ hAe hx hb hr hlocks hml hown hnm hts hsz hA hS hP hK hD hl
  have hRf : R.frames = 0 := by rw [hRe]
  have hRl : R.locals = 0 := by rw [hRe]
  have hRc : R.cells = 0 := by rw [hRe]
  have hRs : R.slots = 0 := by rw [hRe]
  refine lv_bipush (v := 24) hx hb dX12_four_0 (by decide) ?_
  refine lv_istore_n (lv' := [(2, .int 24), (0, .ref a_0), (1, .int i_0)]) hx hb dX12_four_2 rfl hl (by decide) rfl ?_
  clear hl
  clear ls
  intro ls hl
  refine lv_iload_n hx hb dX12_four_3 rfl (lv_at hl 0 rfl) ?_
  refine lv_if_lt (tgt := 36) hx hb dX12_four_4 (by decide) (fun c1 => ?_) (fun c1 => ?_)
  · have q2 := mm_ltL (h := (-1)) (mm_lt c1) mm_k24 mm_k0 (by decide)
    exact mm_no q2 (by decide)
  · refine lv_aload_n hx hb dX12_four_7 rfl (lv_at hl 1 rfl) ?_
    refine va_get (D := G) (ci := 12) (v := .ref a_5) (C := RX12) (T := TX12) (N := 38) hx hb hts (mm_i inlX12) hown hK.1 hP 0 rfl rfl 5 (by decide) (mm_h hts mm_w146) (fun _ h9 => h9) rfl dX12_four_8 ?_
    refine lv_aload_n hx hb dX12_four_11 rfl (lv_at hl 1 rfl) ?_
    refine va_get (D := G) (ci := 12) (v := .int 8) (C := RX12) (T := TX12) (N := 38) hx hb hts (mm_i inlX12) hown hK.1 hP 0 rfl rfl 6 (by decide) (mm_h hts mm_w178) (fun _ h9 => h9) rfl dX12_four_12 ?_
    refine lv_iload_n hx hb dX12_four_15 rfl (lv_at hl 2 rfl) ?_
    refine lv_iload_n hx hb dX12_four_16 rfl (lv_at hl 0 rfl) ?_
    refine lv_ishr hx hb dX12_four_17 ?_
    refine lv_topi (fun v3 ev3 => ?_)
    obtain ⟨v4, ev4⟩ : ∃ y : Int32, y = v3.toInt8.toInt32 := ⟨_, rfl⟩
    refine lv_i2b hx hb dX12_four_18 ev4.symm ?_
    have rv4 : mm_rg v4 (-128) 127 := mm_i2b ev4
    refine va_bast hx hb hK.1 hP hD hS 1 0 rfl rfl (mm_in mm_k8 (by decide)) dX12_four_19 ?_
    clear hP hD hS
    clear H locs
    obtain ⟨g5, eg5⟩ : ∃ z : Nat → Int32, z = upd f_0 (8 : Int32).toNatClampNeg (vp_nar .byte v4) := ⟨_, rfl⟩
    rw [← eg5]
    intro H locs (hP : va_P G vwCl [(a_0, .inr (12, [.int k_0, .ref a_1, .ref a_2, .ref a_3, .ref a_4, .ref a_5, .int 8, .int k_1, .int k_2, .int k_3, .int k_4, .long k_5, .int k_6, .int k_7, .int k_8, .int k_9, .ref a_6, .ref a_7, .ref a_8, .ref a_9, .ref a_10, .ref a_11, .ref a_12, .ref a_13, .ref a_14, .ref a_15, .ref a_16, .ref a_17, .ref a_18, .int k_10, .int k_11, .int k_12, .int k_13, .int k_14, .int k_15, .ref a_19, .int k_16, .ref a_20])), (a_5, .inl (cy 0, 600, .inl g5))] H) (hD : va_D A [(a_0, .inr (12, [.int k_0, .ref a_1, .ref a_2, .ref a_3, .ref a_4, .ref a_5, .int 8, .int k_1, .int k_2, .int k_3, .int k_4, .long k_5, .int k_6, .int k_7, .int k_8, .int k_9, .ref a_6, .ref a_7, .ref a_8, .ref a_9, .ref a_10, .ref a_11, .ref a_12, .ref a_13, .ref a_14, .ref a_15, .ref a_16, .ref a_17, .ref a_18, .int k_10, .int k_11, .int k_12, .int k_13, .int k_14, .int k_15, .ref a_19, .int k_16, .ref a_20])), (a_5, .inl (cy 0, 600, .inl g5))]) hS
    have rg5 : mm_ar g5 (-128) 127 := by rw [eg5]; exact mm_ar_upd (mm_ar_wk h0 (by decide)) (mm_nb _) _
    refine lv_aload_n hx hb dX12_four_20 rfl (lv_at hl 1 rfl) ?_
    refine lv_dup hx hb dX12_four_21 rfl ?_
    refine va_get (D := G) (ci := 12) (v := .int 8) (C := RX12) (T := TX12) (N := 38) hx hb hts (mm_i inlX12) hown hK.1 hP 0 rfl rfl 6 (by decide) (mm_h hts mm_w178) (fun _ h9 => h9) rfl dX12_four_22 ?_
    refine lv_iconst (v := 1) hx hb dX12_four_25 (by decide) ?_
    refine lv_iadd hx hb dX12_four_26 ?_
    refine lv_topi (fun v6 ev6 => ?_)
    obtain rfl : v6 = 9 := ev6.trans (by decide)
    refine va_put (D := G) (ci := 12) (v := .int 9) (ty := tyX12 6) (C := RX12) (T := TX12) (N := 38) hx hb hts (mm_i inlX12) tyX12 tyX12_ok nmX12 hown hK.1 hP hD hS 0 rfl rfl 6 (by decide) (mm_h hts mm_w178) (fun _ h9 => h9) rfl (tyX12_ok 6 (by decide)) rfl rfl (Nat.le_of_ble_eq_true rfl) dX12_four_27 ?_
    clear hP hD hS
    clear H locs
    intro H locs (hP : va_P G vwCl [(a_0, .inr (12, [.int k_0, .ref a_1, .ref a_2, .ref a_3, .ref a_4, .ref a_5, .int 9, .int k_1, .int k_2, .int k_3, .int k_4, .long k_5, .int k_6, .int k_7, .int k_8, .int k_9, .ref a_6, .ref a_7, .ref a_8, .ref a_9, .ref a_10, .ref a_11, .ref a_12, .ref a_13, .ref a_14, .ref a_15, .ref a_16, .ref a_17, .ref a_18, .int k_10, .int k_11, .int k_12, .int k_13, .int k_14, .int k_15, .ref a_19, .int k_16, .ref a_20])), (a_5, .inl (cy 0, 600, .inl g5))] H) (hD : va_D A [(a_0, .inr (12, [.int k_0, .ref a_1, .ref a_2, .ref a_3, .ref a_4, .ref a_5, .int 9, .int k_1, .int k_2, .int k_3, .int k_4, .long k_5, .int k_6, .int k_7, .int k_8, .int k_9, .ref a_6, .ref a_7, .ref a_8, .ref a_9, .ref a_10, .ref a_11, .ref a_12, .ref a_13, .ref a_14, .ref a_15, .ref a_16, .ref a_17, .ref a_18, .int k_10, .int k_11, .int k_12, .int k_13, .int k_14, .int k_15, .ref a_19, .int k_16, .ref a_20])), (a_5, .inl (cy 0, 600, .inl g5))]) hS
    refine lv_iinc (v := 16) (lv' := [(2, .int 16), (0, .ref a_0), (1, .int i_0)]) hx hb dX12_four_30 hl (k := 0) rfl (by decide) (by decide) rfl ?_
    clear hl
    clear ls
    intro ls hl
    refine lv_goto (tgt := 3) hx hb dX12_four_33 (by decide) ?_
    refine lv_iload_n hx hb dX12_four_3 rfl (lv_at hl 0 rfl) ?_
    refine lv_if_lt (tgt := 36) hx hb dX12_four_4 (by decide) (fun c7 => ?_) (fun c7 => ?_)
    · have q8 := mm_ltL (h := (-1)) (mm_lt c7) mm_k16 mm_k0 (by decide)
      exact mm_no q8 (by decide)
    · refine lv_aload_n hx hb dX12_four_7 rfl (lv_at hl 1 rfl) ?_
      refine va_get (D := G) (ci := 12) (v := .ref a_5) (C := RX12) (T := TX12) (N := 38) hx hb hts (mm_i inlX12) hown hK.1 hP 0 rfl rfl 5 (by decide) (mm_h hts mm_w146) (fun _ h9 => h9) rfl dX12_four_8 ?_
      refine lv_aload_n hx hb dX12_four_11 rfl (lv_at hl 1 rfl) ?_
      refine va_get (D := G) (ci := 12) (v := .int 9) (C := RX12) (T := TX12) (N := 38) hx hb hts (mm_i inlX12) hown hK.1 hP 0 rfl rfl 6 (by decide) (mm_h hts mm_w178) (fun _ h9 => h9) rfl dX12_four_12 ?_
      refine lv_iload_n hx hb dX12_four_15 rfl (lv_at hl 2 rfl) ?_
      refine lv_iload_n hx hb dX12_four_16 rfl (lv_at hl 0 rfl) ?_
      refine lv_ishr hx hb dX12_four_17 ?_
      refine lv_topi (fun v9 ev9 => ?_)
      obtain ⟨v10, ev10⟩ : ∃ y : Int32, y = v9.toInt8.toInt32 := ⟨_, rfl⟩
      refine lv_i2b hx hb dX12_four_18 ev10.symm ?_
      have rv10 : mm_rg v10 (-128) 127 := mm_i2b ev10
      refine va_bast hx hb hK.1 hP hD hS 1 0 rfl rfl (mm_in mm_k9 (by decide)) dX12_four_19 ?_
      clear hP hD hS
      clear H locs
      obtain ⟨g11, eg11⟩ : ∃ z : Nat → Int32, z = upd g5 (9 : Int32).toNatClampNeg (vp_nar .byte v10) := ⟨_, rfl⟩
      rw [← eg11]
      intro H locs (hP : va_P G vwCl [(a_0, .inr (12, [.int k_0, .ref a_1, .ref a_2, .ref a_3, .ref a_4, .ref a_5, .int 9, .int k_1, .int k_2, .int k_3, .int k_4, .long k_5, .int k_6, .int k_7, .int k_8, .int k_9, .ref a_6, .ref a_7, .ref a_8, .ref a_9, .ref a_10, .ref a_11, .ref a_12, .ref a_13, .ref a_14, .ref a_15, .ref a_16, .ref a_17, .ref a_18, .int k_10, .int k_11, .int k_12, .int k_13, .int k_14, .int k_15, .ref a_19, .int k_16, .ref a_20])), (a_5, .inl (cy 0, 600, .inl g11))] H) (hD : va_D A [(a_0, .inr (12, [.int k_0, .ref a_1, .ref a_2, .ref a_3, .ref a_4, .ref a_5, .int 9, .int k_1, .int k_2, .int k_3, .int k_4, .long k_5, .int k_6, .int k_7, .int k_8, .int k_9, .ref a_6, .ref a_7, .ref a_8, .ref a_9, .ref a_10, .ref a_11, .ref a_12, .ref a_13, .ref a_14, .ref a_15, .ref a_16, .ref a_17, .ref a_18, .int k_10, .int k_11, .int k_12, .int k_13, .int k_14, .int k_15, .ref a_19, .int k_16, .ref a_20])), (a_5, .inl (cy 0, 600, .inl g11))]) hS
      have rg11 : mm_ar g11 (-128) 127 := by rw [eg11]; exact mm_ar_upd (mm_ar_wk rg5 (by decide)) (mm_nb _) _
      refine lv_aload_n hx hb dX12_four_20 rfl (lv_at hl 1 rfl) ?_
      refine lv_dup hx hb dX12_four_21 rfl ?_
      refine va_get (D := G) (ci := 12) (v := .int 9) (C := RX12) (T := TX12) (N := 38) hx hb hts (mm_i inlX12) hown hK.1 hP 0 rfl rfl 6 (by decide) (mm_h hts mm_w178) (fun _ h9 => h9) rfl dX12_four_22 ?_
      refine lv_iconst (v := 1) hx hb dX12_four_25 (by decide) ?_
      refine lv_iadd hx hb dX12_four_26 ?_
      refine lv_topi (fun v12 ev12 => ?_)
      obtain rfl : v12 = 10 := ev12.trans (by decide)
      refine va_put (D := G) (ci := 12) (v := .int 10) (ty := tyX12 6) (C := RX12) (T := TX12) (N := 38) hx hb hts (mm_i inlX12) tyX12 tyX12_ok nmX12 hown hK.1 hP hD hS 0 rfl rfl 6 (by decide) (mm_h hts mm_w178) (fun _ h9 => h9) rfl (tyX12_ok 6 (by decide)) rfl rfl (Nat.le_of_ble_eq_true rfl) dX12_four_27 ?_
      clear hP hD hS
      clear H locs
      intro H locs (hP : va_P G vwCl [(a_0, .inr (12, [.int k_0, .ref a_1, .ref a_2, .ref a_3, .ref a_4, .ref a_5, .int 10, .int k_1, .int k_2, .int k_3, .int k_4, .long k_5, .int k_6, .int k_7, .int k_8, .int k_9, .ref a_6, .ref a_7, .ref a_8, .ref a_9, .ref a_10, .ref a_11, .ref a_12, .ref a_13, .ref a_14, .ref a_15, .ref a_16, .ref a_17, .ref a_18, .int k_10, .int k_11, .int k_12, .int k_13, .int k_14, .int k_15, .ref a_19, .int k_16, .ref a_20])), (a_5, .inl (cy 0, 600, .inl g11))] H) (hD : va_D A [(a_0, .inr (12, [.int k_0, .ref a_1, .ref a_2, .ref a_3, .ref a_4, .ref a_5, .int 10, .int k_1, .int k_2, .int k_3, .int k_4, .long k_5, .int k_6, .int k_7, .int k_8, .int k_9, .ref a_6, .ref a_7, .ref a_8, .ref a_9, .ref a_10, .ref a_11, .ref a_12, .ref a_13, .ref a_14, .ref a_15, .ref a_16, .ref a_17, .ref a_18, .int k_10, .int k_11, .int k_12, .int k_13, .int k_14, .int k_15, .ref a_19, .int k_16, .ref a_20])), (a_5, .inl (cy 0, 600, .inl g11))]) hS
      refine lv_iinc (v := 8) (lv' := [(2, .int 8), (0, .ref a_0), (1, .int i_0)]) hx hb dX12_four_30 hl (k := 0) rfl (by decide) (by decide) rfl ?_
      clear hl
      clear ls
      intro ls hl
      refine lv_goto (tgt := 3) hx hb dX12_four_33 (by decide) ?_
      refine lv_iload_n hx hb dX12_four_3 rfl (lv_at hl 0 rfl) ?_
      refine lv_if_lt (tgt := 36) hx hb dX12_four_4 (by decide) (fun c13 => ?_) (fun c13 => ?_)
      · have q14 := mm_ltL (h := (-1)) (mm_lt c13) mm_k8 mm_k0 (by decide)
        exact mm_no q14 (by decide)
      · refine lv_aload_n hx hb dX12_four_7 rfl (lv_at hl 1 rfl) ?_
        refine va_get (D := G) (ci := 12) (v := .ref a_5) (C := RX12) (T := TX12) (N := 38) hx hb hts (mm_i inlX12) hown hK.1 hP 0 rfl rfl 5 (by decide) (mm_h hts mm_w146) (fun _ h9 => h9) rfl dX12_four_8 ?_
        refine lv_aload_n hx hb dX12_four_11 rfl (lv_at hl 1 rfl) ?_
        refine va_get (D := G) (ci := 12) (v := .int 10) (C := RX12) (T := TX12) (N := 38) hx hb hts (mm_i inlX12) hown hK.1 hP 0 rfl rfl 6 (by decide) (mm_h hts mm_w178) (fun _ h9 => h9) rfl dX12_four_12 ?_
        refine lv_iload_n hx hb dX12_four_15 rfl (lv_at hl 2 rfl) ?_
        refine lv_iload_n hx hb dX12_four_16 rfl (lv_at hl 0 rfl) ?_
        refine lv_ishr hx hb dX12_four_17 ?_
        refine lv_topi (fun v15 ev15 => ?_)
        obtain ⟨v16, ev16⟩ : ∃ y : Int32, y = v15.toInt8.toInt32 := ⟨_, rfl⟩
        refine lv_i2b hx hb dX12_four_18 ev16.symm ?_
        have rv16 : mm_rg v16 (-128) 127 := mm_i2b ev16
        refine va_bast hx hb hK.1 hP hD hS 1 0 rfl rfl (mm_in mm_k10 (by decide)) dX12_four_19 ?_
        clear hP hD hS
        clear H locs
        obtain ⟨g17, eg17⟩ : ∃ z : Nat → Int32, z = upd g11 (10 : Int32).toNatClampNeg (vp_nar .byte v16) := ⟨_, rfl⟩
        rw [← eg17]
        intro H locs (hP : va_P G vwCl [(a_0, .inr (12, [.int k_0, .ref a_1, .ref a_2, .ref a_3, .ref a_4, .ref a_5, .int 10, .int k_1, .int k_2, .int k_3, .int k_4, .long k_5, .int k_6, .int k_7, .int k_8, .int k_9, .ref a_6, .ref a_7, .ref a_8, .ref a_9, .ref a_10, .ref a_11, .ref a_12, .ref a_13, .ref a_14, .ref a_15, .ref a_16, .ref a_17, .ref a_18, .int k_10, .int k_11, .int k_12, .int k_13, .int k_14, .int k_15, .ref a_19, .int k_16, .ref a_20])), (a_5, .inl (cy 0, 600, .inl g17))] H) (hD : va_D A [(a_0, .inr (12, [.int k_0, .ref a_1, .ref a_2, .ref a_3, .ref a_4, .ref a_5, .int 10, .int k_1, .int k_2, .int k_3, .int k_4, .long k_5, .int k_6, .int k_7, .int k_8, .int k_9, .ref a_6, .ref a_7, .ref a_8, .ref a_9, .ref a_10, .ref a_11, .ref a_12, .ref a_13, .ref a_14, .ref a_15, .ref a_16, .ref a_17, .ref a_18, .int k_10, .int k_11, .int k_12, .int k_13, .int k_14, .int k_15, .ref a_19, .int k_16, .ref a_20])), (a_5, .inl (cy 0, 600, .inl g17))]) hS
        have rg17 : mm_ar g17 (-128) 127 := by rw [eg17]; exact mm_ar_upd (mm_ar_wk rg11 (by decide)) (mm_nb _) _
        refine lv_aload_n hx hb dX12_four_20 rfl (lv_at hl 1 rfl) ?_
        refine lv_dup hx hb dX12_four_21 rfl ?_
        refine va_get (D := G) (ci := 12) (v := .int 10) (C := RX12) (T := TX12) (N := 38) hx hb hts (mm_i inlX12) hown hK.1 hP 0 rfl rfl 6 (by decide) (mm_h hts mm_w178) (fun _ h9 => h9) rfl dX12_four_22 ?_
        refine lv_iconst (v := 1) hx hb dX12_four_25 (by decide) ?_
        refine lv_iadd hx hb dX12_four_26 ?_
        refine lv_topi (fun v18 ev18 => ?_)
        obtain rfl : v18 = 11 := ev18.trans (by decide)
        refine va_put (D := G) (ci := 12) (v := .int 11) (ty := tyX12 6) (C := RX12) (T := TX12) (N := 38) hx hb hts (mm_i inlX12) tyX12 tyX12_ok nmX12 hown hK.1 hP hD hS 0 rfl rfl 6 (by decide) (mm_h hts mm_w178) (fun _ h9 => h9) rfl (tyX12_ok 6 (by decide)) rfl rfl (Nat.le_of_ble_eq_true rfl) dX12_four_27 ?_
        clear hP hD hS
        clear H locs
        intro H locs (hP : va_P G vwCl [(a_0, .inr (12, [.int k_0, .ref a_1, .ref a_2, .ref a_3, .ref a_4, .ref a_5, .int 11, .int k_1, .int k_2, .int k_3, .int k_4, .long k_5, .int k_6, .int k_7, .int k_8, .int k_9, .ref a_6, .ref a_7, .ref a_8, .ref a_9, .ref a_10, .ref a_11, .ref a_12, .ref a_13, .ref a_14, .ref a_15, .ref a_16, .ref a_17, .ref a_18, .int k_10, .int k_11, .int k_12, .int k_13, .int k_14, .int k_15, .ref a_19, .int k_16, .ref a_20])), (a_5, .inl (cy 0, 600, .inl g17))] H) (hD : va_D A [(a_0, .inr (12, [.int k_0, .ref a_1, .ref a_2, .ref a_3, .ref a_4, .ref a_5, .int 11, .int k_1, .int k_2, .int k_3, .int k_4, .long k_5, .int k_6, .int k_7, .int k_8, .int k_9, .ref a_6, .ref a_7, .ref a_8, .ref a_9, .ref a_10, .ref a_11, .ref a_12, .ref a_13, .ref a_14, .ref a_15, .ref a_16, .ref a_17, .ref a_18, .int k_10, .int k_11, .int k_12, .int k_13, .int k_14, .int k_15, .ref a_19, .int k_16, .ref a_20])), (a_5, .inl (cy 0, 600, .inl g17))]) hS
        refine lv_iinc (v := 0) (lv' := [(2, .int 0), (0, .ref a_0), (1, .int i_0)]) hx hb dX12_four_30 hl (k := 0) rfl (by decide) (by decide) rfl ?_
        clear hl
        clear ls
        intro ls hl
        refine lv_goto (tgt := 3) hx hb dX12_four_33 (by decide) ?_
        refine lv_iload_n hx hb dX12_four_3 rfl (lv_at hl 0 rfl) ?_
        refine lv_if_lt (tgt := 36) hx hb dX12_four_4 (by decide) (fun c19 => ?_) (fun c19 => ?_)
        · have q20 := mm_ltL (h := (-1)) (mm_lt c19) mm_k0 mm_k0 (by decide)
          exact mm_no q20 (by decide)
        · refine lv_aload_n hx hb dX12_four_7 rfl (lv_at hl 1 rfl) ?_
          refine va_get (D := G) (ci := 12) (v := .ref a_5) (C := RX12) (T := TX12) (N := 38) hx hb hts (mm_i inlX12) hown hK.1 hP 0 rfl rfl 5 (by decide) (mm_h hts mm_w146) (fun _ h9 => h9) rfl dX12_four_8 ?_
          refine lv_aload_n hx hb dX12_four_11 rfl (lv_at hl 1 rfl) ?_
          refine va_get (D := G) (ci := 12) (v := .int 11) (C := RX12) (T := TX12) (N := 38) hx hb hts (mm_i inlX12) hown hK.1 hP 0 rfl rfl 6 (by decide) (mm_h hts mm_w178) (fun _ h9 => h9) rfl dX12_four_12 ?_
          refine lv_iload_n hx hb dX12_four_15 rfl (lv_at hl 2 rfl) ?_
          refine lv_iload_n hx hb dX12_four_16 rfl (lv_at hl 0 rfl) ?_
          refine lv_ishr hx hb dX12_four_17 ?_
          refine lv_topi (fun v21 ev21 => ?_)
          obtain ⟨v22, ev22⟩ : ∃ y : Int32, y = v21.toInt8.toInt32 := ⟨_, rfl⟩
          refine lv_i2b hx hb dX12_four_18 ev22.symm ?_
          have rv22 : mm_rg v22 (-128) 127 := mm_i2b ev22
          refine va_bast hx hb hK.1 hP hD hS 1 0 rfl rfl (mm_in mm_k11 (by decide)) dX12_four_19 ?_
          clear hP hD hS
          clear H locs
          obtain ⟨g23, eg23⟩ : ∃ z : Nat → Int32, z = upd g17 (11 : Int32).toNatClampNeg (vp_nar .byte v22) := ⟨_, rfl⟩
          rw [← eg23]
          intro H locs (hP : va_P G vwCl [(a_0, .inr (12, [.int k_0, .ref a_1, .ref a_2, .ref a_3, .ref a_4, .ref a_5, .int 11, .int k_1, .int k_2, .int k_3, .int k_4, .long k_5, .int k_6, .int k_7, .int k_8, .int k_9, .ref a_6, .ref a_7, .ref a_8, .ref a_9, .ref a_10, .ref a_11, .ref a_12, .ref a_13, .ref a_14, .ref a_15, .ref a_16, .ref a_17, .ref a_18, .int k_10, .int k_11, .int k_12, .int k_13, .int k_14, .int k_15, .ref a_19, .int k_16, .ref a_20])), (a_5, .inl (cy 0, 600, .inl g23))] H) (hD : va_D A [(a_0, .inr (12, [.int k_0, .ref a_1, .ref a_2, .ref a_3, .ref a_4, .ref a_5, .int 11, .int k_1, .int k_2, .int k_3, .int k_4, .long k_5, .int k_6, .int k_7, .int k_8, .int k_9, .ref a_6, .ref a_7, .ref a_8, .ref a_9, .ref a_10, .ref a_11, .ref a_12, .ref a_13, .ref a_14, .ref a_15, .ref a_16, .ref a_17, .ref a_18, .int k_10, .int k_11, .int k_12, .int k_13, .int k_14, .int k_15, .ref a_19, .int k_16, .ref a_20])), (a_5, .inl (cy 0, 600, .inl g23))]) hS
          have rg23 : mm_ar g23 (-128) 127 := by rw [eg23]; exact mm_ar_upd (mm_ar_wk rg17 (by decide)) (mm_nb _) _
          refine lv_aload_n hx hb dX12_four_20 rfl (lv_at hl 1 rfl) ?_
          refine lv_dup hx hb dX12_four_21 rfl ?_
          refine va_get (D := G) (ci := 12) (v := .int 11) (C := RX12) (T := TX12) (N := 38) hx hb hts (mm_i inlX12) hown hK.1 hP 0 rfl rfl 6 (by decide) (mm_h hts mm_w178) (fun _ h9 => h9) rfl dX12_four_22 ?_
          refine lv_iconst (v := 1) hx hb dX12_four_25 (by decide) ?_
          refine lv_iadd hx hb dX12_four_26 ?_
          refine lv_topi (fun v24 ev24 => ?_)
          obtain rfl : v24 = 12 := ev24.trans (by decide)
          refine va_put (D := G) (ci := 12) (v := .int 12) (ty := tyX12 6) (C := RX12) (T := TX12) (N := 38) hx hb hts (mm_i inlX12) tyX12 tyX12_ok nmX12 hown hK.1 hP hD hS 0 rfl rfl 6 (by decide) (mm_h hts mm_w178) (fun _ h9 => h9) rfl (tyX12_ok 6 (by decide)) rfl rfl (Nat.le_of_ble_eq_true rfl) dX12_four_27 ?_
          clear hP hD hS
          clear H locs
          intro H locs (hP : va_P G vwCl [(a_0, .inr (12, [.int k_0, .ref a_1, .ref a_2, .ref a_3, .ref a_4, .ref a_5, .int 12, .int k_1, .int k_2, .int k_3, .int k_4, .long k_5, .int k_6, .int k_7, .int k_8, .int k_9, .ref a_6, .ref a_7, .ref a_8, .ref a_9, .ref a_10, .ref a_11, .ref a_12, .ref a_13, .ref a_14, .ref a_15, .ref a_16, .ref a_17, .ref a_18, .int k_10, .int k_11, .int k_12, .int k_13, .int k_14, .int k_15, .ref a_19, .int k_16, .ref a_20])), (a_5, .inl (cy 0, 600, .inl g23))] H) (hD : va_D A [(a_0, .inr (12, [.int k_0, .ref a_1, .ref a_2, .ref a_3, .ref a_4, .ref a_5, .int 12, .int k_1, .int k_2, .int k_3, .int k_4, .long k_5, .int k_6, .int k_7, .int k_8, .int k_9, .ref a_6, .ref a_7, .ref a_8, .ref a_9, .ref a_10, .ref a_11, .ref a_12, .ref a_13, .ref a_14, .ref a_15, .ref a_16, .ref a_17, .ref a_18, .int k_10, .int k_11, .int k_12, .int k_13, .int k_14, .int k_15, .ref a_19, .int k_16, .ref a_20])), (a_5, .inl (cy 0, 600, .inl g23))]) hS
          refine lv_iinc (v := (-8)) (lv' := [(2, .int (-8)), (0, .ref a_0), (1, .int i_0)]) hx hb dX12_four_30 hl (k := 0) rfl (by decide) (by decide) rfl ?_
          clear hl
          clear ls
          intro ls hl
          refine lv_goto (tgt := 3) hx hb dX12_four_33 (by decide) ?_
          refine lv_iload_n hx hb dX12_four_3 rfl (lv_at hl 0 rfl) ?_
          refine lv_if_lt (tgt := 36) hx hb dX12_four_4 (by decide) (fun c25 => ?_) (fun c25 => ?_)
          · subst hAe
            rw [hQ]
            exact W.vret hx hb hr (fun t ht hW => ⟨⟨g23, rfl, rg23, by rw [ht]; exact hP, hK.warm hW, hD⟩, hS.F ht⟩) hS.2.2 dX12_four_36
          · have q26 := mm_leL (mm_nlt c25) mm_k0 mm_km8
            exact mm_no q26 (by decide)

set_option maxHeartbeats 4000000 in
set_option maxRecDepth 100000 in
theorem K23_X12_four (l : Launch) (G : va_G) (cy : Nat → ClassId) (sz : Nat) (a_0 : Nat) (i_0 : Int32) (k_0 : Int32) (a_1 : Nat) (a_2 : Nat) (a_3 : Nat) (a_4 : Nat) (a_5 : Nat) (k_1 : Int32) (k_2 : Int32) (k_3 : Int32) (k_4 : Int32) (k_5 : Int64) (k_6 : Int32) (k_7 : Int32) (k_8 : Int32) (k_9 : Int32) (a_6 : Nat) (a_7 : Nat) (a_8 : Nat) (a_9 : Nat) (a_10 : Nat) (a_11 : Nat) (a_12 : Nat) (a_13 : Nat) (a_14 : Nat) (a_15 : Nat) (a_16 : Nat) (a_17 : Nat) (a_18 : Nat) (k_10 : Int32) (k_11 : Int32) (k_12 : Int32) (k_13 : Int32) (k_14 : Int32) (k_15 : Int32) (a_19 : Nat) (k_16 : Int32) (a_20 : Nat) (f_0 : Nat → Int32) (h0 : mm_ar f_0 (-128) 127)  : mm_CV l yX12_four (mm_ws yX12_four cX12_four 3 (none)) ({ frames := 0, cells := 0, slots := 0, locals := 0 } : Room) G cy sz [(a_0, .inr (12, [.int k_0, .ref a_1, .ref a_2, .ref a_3, .ref a_4, .ref a_5, .int 12, .int k_1, .int k_2, .int k_3, .int k_4, .long k_5, .int k_6, .int k_7, .int k_8, .int k_9, .ref a_6, .ref a_7, .ref a_8, .ref a_9, .ref a_10, .ref a_11, .ref a_12, .ref a_13, .ref a_14, .ref a_15, .ref a_16, .ref a_17, .ref a_18, .int k_10, .int k_11, .int k_12, .int k_13, .int k_14, .int k_15, .ref a_19, .int k_16, .ref a_20])), (a_5, .inl (cy 0, 600, .inl f_0))] [.ref a_0, .int i_0] (fun u : (Nat → Int32) => [(a_0, .inr (12, [.int k_0, .ref a_1, .ref a_2, .ref a_3, .ref a_4, .ref a_5, .int 16, .int k_1, .int k_2, .int k_3, .int k_4, .long k_5, .int k_6, .int k_7, .int k_8, .int k_9, .ref a_6, .ref a_7, .ref a_8, .ref a_9, .ref a_10, .ref a_11, .ref a_12, .ref a_13, .ref a_14, .ref a_15, .ref a_16, .ref a_17, .ref a_18, .int k_10, .int k_11, .int k_12, .int k_13, .int k_14, .int k_15, .ref a_19, .int k_16, .ref a_20])), (a_5, .inl (cy 0, 600, .inl u))]) (fun u : (Nat → Int32) => mm_ar u (-128) 127) 0 0 := by
  refine mm_begin (lv := [(0, .ref a_0), (1, .int i_0)]) (by decide) (Nat.le_of_ble_eq_true rfl) rfl ?_
  intro p e s m below meth c A ls R args Q H locs hRe hQ hAe hx hb hr hlocks hml hown hnm hts hsz hA hS hP hK hD hl
  have hRf : R.frames = 0 := by rw [hRe]
  have hRl : R.locals = 0 := by rw [hRe]
  have hRc : R.cells = 0 := by rw [hRe]
  have hRs : R.slots = 0 := by rw [hRe]
  refine lv_bipush (v := 24) hx hb dX12_four_0 (by decide) ?_
  refine lv_istore_n (lv' := [(2, .int 24), (0, .ref a_0), (1, .int i_0)]) hx hb dX12_four_2 rfl hl (by decide) rfl ?_
  clear hl
  clear ls
  intro ls hl
  refine lv_iload_n hx hb dX12_four_3 rfl (lv_at hl 0 rfl) ?_
  refine lv_if_lt (tgt := 36) hx hb dX12_four_4 (by decide) (fun c1 => ?_) (fun c1 => ?_)
  · have q2 := mm_ltL (h := (-1)) (mm_lt c1) mm_k24 mm_k0 (by decide)
    exact mm_no q2 (by decide)
  · refine lv_aload_n hx hb dX12_four_7 rfl (lv_at hl 1 rfl) ?_
    refine va_get (D := G) (ci := 12) (v := .ref a_5) (C := RX12) (T := TX12) (N := 38) hx hb hts (mm_i inlX12) hown hK.1 hP 0 rfl rfl 5 (by decide) (mm_h hts mm_w146) (fun _ h9 => h9) rfl dX12_four_8 ?_
    refine lv_aload_n hx hb dX12_four_11 rfl (lv_at hl 1 rfl) ?_
    refine va_get (D := G) (ci := 12) (v := .int 12) (C := RX12) (T := TX12) (N := 38) hx hb hts (mm_i inlX12) hown hK.1 hP 0 rfl rfl 6 (by decide) (mm_h hts mm_w178) (fun _ h9 => h9) rfl dX12_four_12 ?_
    refine lv_iload_n hx hb dX12_four_15 rfl (lv_at hl 2 rfl) ?_
    refine lv_iload_n hx hb dX12_four_16 rfl (lv_at hl 0 rfl) ?_
    refine lv_ishr hx hb dX12_four_17 ?_
    refine lv_topi (fun v3 ev3 => ?_)
    obtain ⟨v4, ev4⟩ : ∃ y : Int32, y = v3.toInt8.toInt32 := ⟨_, rfl⟩
    refine lv_i2b hx hb dX12_four_18 ev4.symm ?_
    have rv4 : mm_rg v4 (-128) 127 := mm_i2b ev4
    refine va_bast hx hb hK.1 hP hD hS 1 0 rfl rfl (mm_in mm_k12 (by decide)) dX12_four_19 ?_
    clear hP hD hS
    clear H locs
    obtain ⟨g5, eg5⟩ : ∃ z : Nat → Int32, z = upd f_0 (12 : Int32).toNatClampNeg (vp_nar .byte v4) := ⟨_, rfl⟩
    rw [← eg5]
    intro H locs (hP : va_P G vwCl [(a_0, .inr (12, [.int k_0, .ref a_1, .ref a_2, .ref a_3, .ref a_4, .ref a_5, .int 12, .int k_1, .int k_2, .int k_3, .int k_4, .long k_5, .int k_6, .int k_7, .int k_8, .int k_9, .ref a_6, .ref a_7, .ref a_8, .ref a_9, .ref a_10, .ref a_11, .ref a_12, .ref a_13, .ref a_14, .ref a_15, .ref a_16, .ref a_17, .ref a_18, .int k_10, .int k_11, .int k_12, .int k_13, .int k_14, .int k_15, .ref a_19, .int k_16, .ref a_20])), (a_5, .inl (cy 0, 600, .inl g5))] H) (hD : va_D A [(a_0, .inr (12, [.int k_0, .ref a_1, .ref a_2, .ref a_3, .ref a_4, .ref a_5, .int 12, .int k_1, .int k_2, .int k_3, .int k_4, .long k_5, .int k_6, .int k_7, .int k_8, .int k_9, .ref a_6, .ref a_7, .ref a_8, .ref a_9, .ref a_10, .ref a_11, .ref a_12, .ref a_13, .ref a_14, .ref a_15, .ref a_16, .ref a_17, .ref a_18, .int k_10, .int k_11, .int k_12, .int k_13, .int k_14, .int k_15, .ref a_19, .int k_16, .ref a_20])), (a_5, .inl (cy 0, 600, .inl g5))]) hS
    have rg5 : mm_ar g5 (-128) 127 := by rw [eg5]; exact mm_ar_upd (mm_ar_wk h0 (by decide)) (mm_nb _) _
    refine lv_aload_n hx hb dX12_four_20 rfl (lv_at hl 1 rfl) ?_
    refine lv_dup hx hb dX12_four_21 rfl ?_
    refine va_get (D := G) (ci := 12) (v := .int 12) (C := RX12) (T := TX12) (N := 38) hx hb hts (mm_i inlX12) hown hK.1 hP 0 rfl rfl 6 (by decide) (mm_h hts mm_w178) (fun _ h9 => h9) rfl dX12_four_22 ?_
    refine lv_iconst (v := 1) hx hb dX12_four_25 (by decide) ?_
    refine lv_iadd hx hb dX12_four_26 ?_
    refine lv_topi (fun v6 ev6 => ?_)
    obtain rfl : v6 = 13 := ev6.trans (by decide)
    refine va_put (D := G) (ci := 12) (v := .int 13) (ty := tyX12 6) (C := RX12) (T := TX12) (N := 38) hx hb hts (mm_i inlX12) tyX12 tyX12_ok nmX12 hown hK.1 hP hD hS 0 rfl rfl 6 (by decide) (mm_h hts mm_w178) (fun _ h9 => h9) rfl (tyX12_ok 6 (by decide)) rfl rfl (Nat.le_of_ble_eq_true rfl) dX12_four_27 ?_
    clear hP hD hS
    clear H locs
    intro H locs (hP : va_P G vwCl [(a_0, .inr (12, [.int k_0, .ref a_1, .ref a_2, .ref a_3, .ref a_4, .ref a_5, .int 13, .int k_1, .int k_2, .int k_3, .int k_4, .long k_5, .int k_6, .int k_7, .int k_8, .int k_9, .ref a_6, .ref a_7, .ref a_8, .ref a_9, .ref a_10, .ref a_11, .ref a_12, .ref a_13, .ref a_14, .ref a_15, .ref a_16, .ref a_17, .ref a_18, .int k_10, .int k_11, .int k_12, .int k_13, .int k_14, .int k_15, .ref a_19, .int k_16, .ref a_20])), (a_5, .inl (cy 0, 600, .inl g5))] H) (hD : va_D A [(a_0, .inr (12, [.int k_0, .ref a_1, .ref a_2, .ref a_3, .ref a_4, .ref a_5, .int 13, .int k_1, .int k_2, .int k_3, .int k_4, .long k_5, .int k_6, .int k_7, .int k_8, .int k_9, .ref a_6, .ref a_7, .ref a_8, .ref a_9, .ref a_10, .ref a_11, .ref a_12, .ref a_13, .ref a_14, .ref a_15, .ref a_16, .ref a_17, .ref a_18, .int k_10, .int k_11, .int k_12, .int k_13, .int k_14, .int k_15, .ref a_19, .int k_16, .ref a_20])), (a_5, .inl (cy 0, 600, .inl g5))]) hS
    refine lv_iinc (v := 16) (lv' := [(2, .int 16), (0, .ref a_0), (1, .int i_0)]) hx hb dX12_four_30 hl (k := 0) rfl (by decide) (by decide) rfl ?_
    clear hl
    clear ls
    intro ls hl
    refine lv_goto (tgt := 3) hx hb dX12_four_33 (by decide) ?_
    refine lv_iload_n hx hb dX12_four_3 rfl (lv_at hl 0 rfl) ?_
    refine lv_if_lt (tgt := 36) hx hb dX12_four_4 (by decide) (fun c7 => ?_) (fun c7 => ?_)
    · have q8 := mm_ltL (h := (-1)) (mm_lt c7) mm_k16 mm_k0 (by decide)
      exact mm_no q8 (by decide)
    · refine lv_aload_n hx hb dX12_four_7 rfl (lv_at hl 1 rfl) ?_
      refine va_get (D := G) (ci := 12) (v := .ref a_5) (C := RX12) (T := TX12) (N := 38) hx hb hts (mm_i inlX12) hown hK.1 hP 0 rfl rfl 5 (by decide) (mm_h hts mm_w146) (fun _ h9 => h9) rfl dX12_four_8 ?_
      refine lv_aload_n hx hb dX12_four_11 rfl (lv_at hl 1 rfl) ?_
      refine va_get (D := G) (ci := 12) (v := .int 13) (C := RX12) (T := TX12) (N := 38) hx hb hts (mm_i inlX12) hown hK.1 hP 0 rfl rfl 6 (by decide) (mm_h hts mm_w178) (fun _ h9 => h9) rfl dX12_four_12 ?_
      refine lv_iload_n hx hb dX12_four_15 rfl (lv_at hl 2 rfl) ?_
      refine lv_iload_n hx hb dX12_four_16 rfl (lv_at hl 0 rfl) ?_
      refine lv_ishr hx hb dX12_four_17 ?_
      refine lv_topi (fun v9 ev9 => ?_)
      obtain ⟨v10, ev10⟩ : ∃ y : Int32, y = v9.toInt8.toInt32 := ⟨_, rfl⟩
      refine lv_i2b hx hb dX12_four_18 ev10.symm ?_
      have rv10 : mm_rg v10 (-128) 127 := mm_i2b ev10
      refine va_bast hx hb hK.1 hP hD hS 1 0 rfl rfl (mm_in mm_k13 (by decide)) dX12_four_19 ?_
      clear hP hD hS
      clear H locs
      obtain ⟨g11, eg11⟩ : ∃ z : Nat → Int32, z = upd g5 (13 : Int32).toNatClampNeg (vp_nar .byte v10) := ⟨_, rfl⟩
      rw [← eg11]
      intro H locs (hP : va_P G vwCl [(a_0, .inr (12, [.int k_0, .ref a_1, .ref a_2, .ref a_3, .ref a_4, .ref a_5, .int 13, .int k_1, .int k_2, .int k_3, .int k_4, .long k_5, .int k_6, .int k_7, .int k_8, .int k_9, .ref a_6, .ref a_7, .ref a_8, .ref a_9, .ref a_10, .ref a_11, .ref a_12, .ref a_13, .ref a_14, .ref a_15, .ref a_16, .ref a_17, .ref a_18, .int k_10, .int k_11, .int k_12, .int k_13, .int k_14, .int k_15, .ref a_19, .int k_16, .ref a_20])), (a_5, .inl (cy 0, 600, .inl g11))] H) (hD : va_D A [(a_0, .inr (12, [.int k_0, .ref a_1, .ref a_2, .ref a_3, .ref a_4, .ref a_5, .int 13, .int k_1, .int k_2, .int k_3, .int k_4, .long k_5, .int k_6, .int k_7, .int k_8, .int k_9, .ref a_6, .ref a_7, .ref a_8, .ref a_9, .ref a_10, .ref a_11, .ref a_12, .ref a_13, .ref a_14, .ref a_15, .ref a_16, .ref a_17, .ref a_18, .int k_10, .int k_11, .int k_12, .int k_13, .int k_14, .int k_15, .ref a_19, .int k_16, .ref a_20])), (a_5, .inl (cy 0, 600, .inl g11))]) hS
      have rg11 : mm_ar g11 (-128) 127 := by rw [eg11]; exact mm_ar_upd (mm_ar_wk rg5 (by decide)) (mm_nb _) _
      refine lv_aload_n hx hb dX12_four_20 rfl (lv_at hl 1 rfl) ?_
      refine lv_dup hx hb dX12_four_21 rfl ?_
      refine va_get (D := G) (ci := 12) (v := .int 13) (C := RX12) (T := TX12) (N := 38) hx hb hts (mm_i inlX12) hown hK.1 hP 0 rfl rfl 6 (by decide) (mm_h hts mm_w178) (fun _ h9 => h9) rfl dX12_four_22 ?_
      refine lv_iconst (v := 1) hx hb dX12_four_25 (by decide) ?_
      refine lv_iadd hx hb dX12_four_26 ?_
      refine lv_topi (fun v12 ev12 => ?_)
      obtain rfl : v12 = 14 := ev12.trans (by decide)
      refine va_put (D := G) (ci := 12) (v := .int 14) (ty := tyX12 6) (C := RX12) (T := TX12) (N := 38) hx hb hts (mm_i inlX12) tyX12 tyX12_ok nmX12 hown hK.1 hP hD hS 0 rfl rfl 6 (by decide) (mm_h hts mm_w178) (fun _ h9 => h9) rfl (tyX12_ok 6 (by decide)) rfl rfl (Nat.le_of_ble_eq_true rfl) dX12_four_27 ?_
      clear hP hD hS
      clear H locs
      intro H locs (hP : va_P G vwCl [(a_0, .inr (12, [.int k_0, .ref a_1, .ref a_2, .ref a_3, .ref a_4, .ref a_5, .int 14, .int k_1, .int k_2, .int k_3, .int k_4, .long k_5, .int k_6, .int k_7, .int k_8, .int k_9, .ref a_6, .ref a_7, .ref a_8, .ref a_9, .ref a_10, .ref a_11, .ref a_12, .ref a_13, .ref a_14, .ref a_15, .ref a_16, .ref a_17, .ref a_18, .int k_10, .int k_11, .int k_12, .int k_13, .int k_14, .int k_15, .ref a_19, .int k_16, .ref a_20])), (a_5, .inl (cy 0, 600, .inl g11))] H) (hD : va_D A [(a_0, .inr (12, [.int k_0, .ref a_1, .ref a_2, .ref a_3, .ref a_4, .ref a_5, .int 14, .int k_1, .int k_2, .int k_3, .int k_4, .long k_5, .int k_6, .int k_7, .int k_8, .int k_9, .ref a_6, .ref a_7, .ref a_8, .ref a_9, .ref a_10, .ref a_11, .ref a_12, .ref a_13, .ref a_14, .ref a_15, .ref a_16, .ref a_17, .ref a_18, .int k_10, .int k_11, .int k_12, .int k_13, .int k_14, .int k_15, .ref a_19, .int k_16, .ref a_20])), (a_5, .inl (cy 0, 600, .inl g11))]) hS
      refine lv_iinc (v := 8) (lv' := [(2, .int 8), (0, .ref a_0), (1, .int i_0)]) hx hb dX12_four_30 hl (k := 0) rfl (by decide) (by decide) rfl ?_
      clear hl
      clear ls
      intro ls hl
      refine lv_goto (tgt := 3) hx hb dX12_four_33 (by decide) ?_
      refine lv_iload_n hx hb dX12_four_3 rfl (lv_at hl 0 rfl) ?_
      refine lv_if_lt (tgt := 36) hx hb dX12_four_4 (by decide) (fun c13 => ?_) (fun c13 => ?_)
      · have q14 := mm_ltL (h := (-1)) (mm_lt c13) mm_k8 mm_k0 (by decide)
        exact mm_no q14 (by decide)
      · refine lv_aload_n hx hb dX12_four_7 rfl (lv_at hl 1 rfl) ?_
        refine va_get (D := G) (ci := 12) (v := .ref a_5) (C := RX12) (T := TX12) (N := 38) hx hb hts (mm_i inlX12) hown hK.1 hP 0 rfl rfl 5 (by decide) (mm_h hts mm_w146) (fun _ h9 => h9) rfl dX12_four_8 ?_
        refine lv_aload_n hx hb dX12_four_11 rfl (lv_at hl 1 rfl) ?_
        refine va_get (D := G) (ci := 12) (v := .int 14) (C := RX12) (T := TX12) (N := 38) hx hb hts (mm_i inlX12) hown hK.1 hP 0 rfl rfl 6 (by decide) (mm_h hts mm_w178) (fun _ h9 => h9) rfl dX12_four_12 ?_
        refine lv_iload_n hx hb dX12_four_15 rfl (lv_at hl 2 rfl) ?_
        refine lv_iload_n hx hb dX12_four_16 rfl (lv_at hl 0 rfl) ?_
        refine lv_ishr hx hb dX12_four_17 ?_
        refine lv_topi (fun v15 ev15 => ?_)
        obtain ⟨v16, ev16⟩ : ∃ y : Int32, y = v15.toInt8.toInt32 := ⟨_, rfl⟩
        refine lv_i2b hx hb dX12_four_18 ev16.symm ?_
        have rv16 : mm_rg v16 (-128) 127 := mm_i2b ev16
        refine va_bast hx hb hK.1 hP hD hS 1 0 rfl rfl (mm_in mm_k14 (by decide)) dX12_four_19 ?_
        clear hP hD hS
        clear H locs
        obtain ⟨g17, eg17⟩ : ∃ z : Nat → Int32, z = upd g11 (14 : Int32).toNatClampNeg (vp_nar .byte v16) := ⟨_, rfl⟩
        rw [← eg17]
        intro H locs (hP : va_P G vwCl [(a_0, .inr (12, [.int k_0, .ref a_1, .ref a_2, .ref a_3, .ref a_4, .ref a_5, .int 14, .int k_1, .int k_2, .int k_3, .int k_4, .long k_5, .int k_6, .int k_7, .int k_8, .int k_9, .ref a_6, .ref a_7, .ref a_8, .ref a_9, .ref a_10, .ref a_11, .ref a_12, .ref a_13, .ref a_14, .ref a_15, .ref a_16, .ref a_17, .ref a_18, .int k_10, .int k_11, .int k_12, .int k_13, .int k_14, .int k_15, .ref a_19, .int k_16, .ref a_20])), (a_5, .inl (cy 0, 600, .inl g17))] H) (hD : va_D A [(a_0, .inr (12, [.int k_0, .ref a_1, .ref a_2, .ref a_3, .ref a_4, .ref a_5, .int 14, .int k_1, .int k_2, .int k_3, .int k_4, .long k_5, .int k_6, .int k_7, .int k_8, .int k_9, .ref a_6, .ref a_7, .ref a_8, .ref a_9, .ref a_10, .ref a_11, .ref a_12, .ref a_13, .ref a_14, .ref a_15, .ref a_16, .ref a_17, .ref a_18, .int k_10, .int k_11, .int k_12, .int k_13, .int k_14, .int k_15, .ref a_19, .int k_16, .ref a_20])), (a_5, .inl (cy 0, 600, .inl g17))]) hS
        have rg17 : mm_ar g17 (-128) 127 := by rw [eg17]; exact mm_ar_upd (mm_ar_wk rg11 (by decide)) (mm_nb _) _
        refine lv_aload_n hx hb dX12_four_20 rfl (lv_at hl 1 rfl) ?_
        refine lv_dup hx hb dX12_four_21 rfl ?_
        refine va_get (D := G) (ci := 12) (v := .int 14) (C := RX12) (T := TX12) (N := 38) hx hb hts (mm_i inlX12) hown hK.1 hP 0 rfl rfl 6 (by decide) (mm_h hts mm_w178) (fun _ h9 => h9) rfl dX12_four_22 ?_
        refine lv_iconst (v := 1) hx hb dX12_four_25 (by decide) ?_
        refine lv_iadd hx hb dX12_four_26 ?_
        refine lv_topi (fun v18 ev18 => ?_)
        obtain rfl : v18 = 15 := ev18.trans (by decide)
        refine va_put (D := G) (ci := 12) (v := .int 15) (ty := tyX12 6) (C := RX12) (T := TX12) (N := 38) hx hb hts (mm_i inlX12) tyX12 tyX12_ok nmX12 hown hK.1 hP hD hS 0 rfl rfl 6 (by decide) (mm_h hts mm_w178) (fun _ h9 => h9) rfl (tyX12_ok 6 (by decide)) rfl rfl (Nat.le_of_ble_eq_true rfl) dX12_four_27 ?_
        clear hP hD hS
        clear H locs
        intro H locs (hP : va_P G vwCl [(a_0, .inr (12, [.int k_0, .ref a_1, .ref a_2, .ref a_3, .ref a_4, .ref a_5, .int 15, .int k_1, .int k_2, .int k_3, .int k_4, .long k_5, .int k_6, .int k_7, .int k_8, .int k_9, .ref a_6, .ref a_7, .ref a_8, .ref a_9, .ref a_10, .ref a_11, .ref a_12, .ref a_13, .ref a_14, .ref a_15, .ref a_16, .ref a_17, .ref a_18, .int k_10, .int k_11, .int k_12, .int k_13, .int k_14, .int k_15, .ref a_19, .int k_16, .ref a_20])), (a_5, .inl (cy 0, 600, .inl g17))] H) (hD : va_D A [(a_0, .inr (12, [.int k_0, .ref a_1, .ref a_2, .ref a_3, .ref a_4, .ref a_5, .int 15, .int k_1, .int k_2, .int k_3, .int k_4, .long k_5, .int k_6, .int k_7, .int k_8, .int k_9, .ref a_6, .ref a_7, .ref a_8, .ref a_9, .ref a_10, .ref a_11, .ref a_12, .ref a_13, .ref a_14, .ref a_15, .ref a_16, .ref a_17, .ref a_18, .int k_10, .int k_11, .int k_12, .int k_13, .int k_14, .int k_15, .ref a_19, .int k_16, .ref a_20])), (a_5, .inl (cy 0, 600, .inl g17))]) hS
        refine lv_iinc (v := 0) (lv' := [(2, .int 0), (0, .ref a_0), (1, .int i_0)]) hx hb dX12_four_30 hl (k := 0) rfl (by decide) (by decide) rfl ?_
        clear hl
        clear ls
        intro ls hl
        refine lv_goto (tgt := 3) hx hb dX12_four_33 (by decide) ?_
        refine lv_iload_n hx hb dX12_four_3 rfl (lv_at hl 0 rfl) ?_
        refine lv_if_lt (tgt := 36) hx hb dX12_four_4 (by decide) (fun c19 => ?_) (fun c19 => ?_)
        · have q20 := mm_ltL (h := (-1)) (mm_lt c19) mm_k0 mm_k0 (by decide)
          exact mm_no q20 (by decide)
        · refine lv_aload_n hx hb dX12_four_7 rfl (lv_at hl 1 rfl) ?_
          refine va_get (D := G) (ci := 12) (v := .ref a_5) (C := RX12) (T := TX12) (N := 38) hx hb hts (mm_i inlX12) hown hK.1 hP 0 rfl rfl 5 (by decide) (mm_h hts mm_w146) (fun _ h9 => h9) rfl dX12_four_8 ?_
          refine lv_aload_n hx hb dX12_four_11 rfl (lv_at hl 1 rfl) ?_
          refine va_get (D := G) (ci := 12) (v := .int 15) (C := RX12) (T := TX12) (N := 38) hx hb hts (mm_i inlX12) hown hK.1 hP 0 rfl rfl 6 (by decide) (mm_h hts mm_w178) (fun _ h9 => h9) rfl dX12_four_12 ?_
          refine lv_iload_n hx hb dX12_four_15 rfl (lv_at hl 2 rfl) ?_
          refine lv_iload_n hx hb dX12_four_16 rfl (lv_at hl 0 rfl) ?_
          refine lv_ishr hx hb dX12_four_17 ?_
          refine lv_topi (fun v21 ev21 => ?_)
          obtain ⟨v22, ev22⟩ : ∃ y : Int32, y = v21.toInt8.toInt32 := ⟨_, rfl⟩
          refine lv_i2b hx hb dX12_four_18 ev22.symm ?_
          have rv22 : mm_rg v22 (-128) 127 := mm_i2b ev22
          refine va_bast hx hb hK.1 hP hD hS 1 0 rfl rfl (mm_in mm_k15 (by decide)) dX12_four_19 ?_
          clear hP hD hS
          clear H locs
          obtain ⟨g23, eg23⟩ : ∃ z : Nat → Int32, z = upd g17 (15 : Int32).toNatClampNeg (vp_nar .byte v22) := ⟨_, rfl⟩
          rw [← eg23]
          intro H locs (hP : va_P G vwCl [(a_0, .inr (12, [.int k_0, .ref a_1, .ref a_2, .ref a_3, .ref a_4, .ref a_5, .int 15, .int k_1, .int k_2, .int k_3, .int k_4, .long k_5, .int k_6, .int k_7, .int k_8, .int k_9, .ref a_6, .ref a_7, .ref a_8, .ref a_9, .ref a_10, .ref a_11, .ref a_12, .ref a_13, .ref a_14, .ref a_15, .ref a_16, .ref a_17, .ref a_18, .int k_10, .int k_11, .int k_12, .int k_13, .int k_14, .int k_15, .ref a_19, .int k_16, .ref a_20])), (a_5, .inl (cy 0, 600, .inl g23))] H) (hD : va_D A [(a_0, .inr (12, [.int k_0, .ref a_1, .ref a_2, .ref a_3, .ref a_4, .ref a_5, .int 15, .int k_1, .int k_2, .int k_3, .int k_4, .long k_5, .int k_6, .int k_7, .int k_8, .int k_9, .ref a_6, .ref a_7, .ref a_8, .ref a_9, .ref a_10, .ref a_11, .ref a_12, .ref a_13, .ref a_14, .ref a_15, .ref a_16, .ref a_17, .ref a_18, .int k_10, .int k_11, .int k_12, .int k_13, .int k_14, .int k_15, .ref a_19, .int k_16, .ref a_20])), (a_5, .inl (cy 0, 600, .inl g23))]) hS
          have rg23 : mm_ar g23 (-128) 127 := by rw [eg23]; exact mm_ar_upd (mm_ar_wk rg17 (by decide)) (mm_nb _) _
          refine lv_aload_n hx hb dX12_four_20 rfl (lv_at hl 1 rfl) ?_
          refine lv_dup hx hb dX12_four_21 rfl ?_
          refine va_get (D := G) (ci := 12) (v := .int 15) (C := RX12) (T := TX12) (N := 38) hx hb hts (mm_i inlX12) hown hK.1 hP 0 rfl rfl 6 (by decide) (mm_h hts mm_w178) (fun _ h9 => h9) rfl dX12_four_22 ?_
          refine lv_iconst (v := 1) hx hb dX12_four_25 (by decide) ?_
          refine lv_iadd hx hb dX12_four_26 ?_
          refine lv_topi (fun v24 ev24 => ?_)
          obtain rfl : v24 = 16 := ev24.trans (by decide)
          refine va_put (D := G) (ci := 12) (v := .int 16) (ty := tyX12 6) (C := RX12) (T := TX12) (N := 38) hx hb hts (mm_i inlX12) tyX12 tyX12_ok nmX12 hown hK.1 hP hD hS 0 rfl rfl 6 (by decide) (mm_h hts mm_w178) (fun _ h9 => h9) rfl (tyX12_ok 6 (by decide)) rfl rfl (Nat.le_of_ble_eq_true rfl) dX12_four_27 ?_
          clear hP hD hS
          clear H locs
          intro H locs (hP : va_P G vwCl [(a_0, .inr (12, [.int k_0, .ref a_1, .ref a_2, .ref a_3, .ref a_4, .ref a_5, .int 16, .int k_1, .int k_2, .int k_3, .int k_4, .long k_5, .int k_6, .int k_7, .int k_8, .int k_9, .ref a_6, .ref a_7, .ref a_8, .ref a_9, .ref a_10, .ref a_11, .ref a_12, .ref a_13, .ref a_14, .ref a_15, .ref a_16, .ref a_17, .ref a_18, .int k_10, .int k_11, .int k_12, .int k_13, .int k_14, .int k_15, .ref a_19, .int k_16, .ref a_20])), (a_5, .inl (cy 0, 600, .inl g23))] H) (hD : va_D A [(a_0, .inr (12, [.int k_0, .ref a_1, .ref a_2, .ref a_3, .ref a_4, .ref a_5, .int 16, .int k_1, .int k_2, .int k_3, .int k_4, .long k_5, .int k_6, .int k_7, .int k_8, .int k_9, .ref a_6, .ref a_7, .ref a_8, .ref a_9, .ref a_10, .ref a_11, .ref a_12, .ref a_13, .ref a_14, .ref a_15, .ref a_16, .ref a_17, .ref a_18, .int k_10, .int k_11, .int k_12, .int k_13, .int k_14, .int k_15, .ref a_19, .int k_16, .ref a_20])), (a_5, .inl (cy 0, 600, .inl g23))]) hS
          refine lv_iinc (v := (-8)) (lv' := [(2, .int (-8)), (0, .ref a_0), (1, .int i_0)]) hx hb dX12_four_30 hl (k := 0) rfl (by decide) (by decide) rfl ?_
          clear hl
          clear ls
          intro ls hl
          refine lv_goto (tgt := 3) hx hb dX12_four_33 (by decide) ?_
          refine lv_iload_n hx hb dX12_four_3 rfl (lv_at hl 0 rfl) ?_
          refine lv_if_lt (tgt := 36) hx hb dX12_four_4 (by decide) (fun c25 => ?_) (fun c25 => ?_)
          · subst hAe
            rw [hQ]
            exact W.vret hx hb hr (fun t ht hW => ⟨⟨g23, rfl, rg23, by rw [ht]; exact hP, hK.warm hW, hD⟩, hS.F ht⟩) hS.2.2 dX12_four_36
          · have q26 := mm_leL (mm_nlt c25) mm_k0 mm_km8
            exact mm_no q26 (by decide)

set_option maxHeartbeats 4000000 in
set_option maxRecDepth 100000 in
theorem K24_X12_four (l : Launch) (G : va_G) (cy : Nat → ClassId) (sz : Nat) (a_0 : Nat) (i_0 : Int32) (k_0 : Int32) (a_1 : Nat) (a_2 : Nat) (a_3 : Nat) (a_4 : Nat) (a_5 : Nat) (k_1 : Int32) (k_2 : Int32) (k_3 : Int32) (k_4 : Int32) (k_5 : Int64) (k_6 : Int32) (k_7 : Int32) (k_8 : Int32) (k_9 : Int32) (a_6 : Nat) (a_7 : Nat) (a_8 : Nat) (a_9 : Nat) (a_10 : Nat) (a_11 : Nat) (a_12 : Nat) (a_13 : Nat) (a_14 : Nat) (a_15 : Nat) (a_16 : Nat) (a_17 : Nat) (a_18 : Nat) (k_10 : Int32) (k_11 : Int32) (k_12 : Int32) (k_13 : Int32) (k_14 : Int32) (k_15 : Int32) (a_19 : Nat) (k_16 : Int32) (a_20 : Nat) (f_0 : Nat → Int32) (h0 : mm_ar f_0 (-128) 127)  : mm_CV l yX12_four (mm_ws yX12_four cX12_four 3 (none)) ({ frames := 0, cells := 0, slots := 0, locals := 0 } : Room) G cy sz [(a_0, .inr (12, [.int k_0, .ref a_1, .ref a_2, .ref a_3, .ref a_4, .ref a_5, .int 16, .int k_1, .int k_2, .int k_3, .int k_4, .long k_5, .int k_6, .int k_7, .int k_8, .int k_9, .ref a_6, .ref a_7, .ref a_8, .ref a_9, .ref a_10, .ref a_11, .ref a_12, .ref a_13, .ref a_14, .ref a_15, .ref a_16, .ref a_17, .ref a_18, .int k_10, .int k_11, .int k_12, .int k_13, .int k_14, .int k_15, .ref a_19, .int k_16, .ref a_20])), (a_5, .inl (cy 0, 600, .inl f_0))] [.ref a_0, .int i_0] (fun u : (Nat → Int32) => [(a_0, .inr (12, [.int k_0, .ref a_1, .ref a_2, .ref a_3, .ref a_4, .ref a_5, .int 20, .int k_1, .int k_2, .int k_3, .int k_4, .long k_5, .int k_6, .int k_7, .int k_8, .int k_9, .ref a_6, .ref a_7, .ref a_8, .ref a_9, .ref a_10, .ref a_11, .ref a_12, .ref a_13, .ref a_14, .ref a_15, .ref a_16, .ref a_17, .ref a_18, .int k_10, .int k_11, .int k_12, .int k_13, .int k_14, .int k_15, .ref a_19, .int k_16, .ref a_20])), (a_5, .inl (cy 0, 600, .inl u))]) (fun u : (Nat → Int32) => mm_ar u (-128) 127) 0 0 := by
  refine mm_begin (lv := [(0, .ref a_0), (1, .int i_0)]) (by decide) (Nat.le_of_ble_eq_true rfl) rfl ?_
  intro p e s m below meth c A ls R args Q H locs hRe hQ hAe hx hb hr hlocks hml hown hnm hts hsz hA hS hP hK hD hl
  have hRf : R.frames = 0 := by rw [hRe]
  have hRl : R.locals = 0 := by rw [hRe]
  have hRc : R.cells = 0 := by rw [hRe]
  have hRs : R.slots = 0 := by rw [hRe]
  refine lv_bipush (v := 24) hx hb dX12_four_0 (by decide) ?_
  refine lv_istore_n (lv' := [(2, .int 24), (0, .ref a_0), (1, .int i_0)]) hx hb dX12_four_2 rfl hl (by decide) rfl ?_
  clear hl
  clear ls
  intro ls hl
  refine lv_iload_n hx hb dX12_four_3 rfl (lv_at hl 0 rfl) ?_
  refine lv_if_lt (tgt := 36) hx hb dX12_four_4 (by decide) (fun c1 => ?_) (fun c1 => ?_)
  · have q2 := mm_ltL (h := (-1)) (mm_lt c1) mm_k24 mm_k0 (by decide)
    exact mm_no q2 (by decide)
  · refine lv_aload_n hx hb dX12_four_7 rfl (lv_at hl 1 rfl) ?_
    refine va_get (D := G) (ci := 12) (v := .ref a_5) (C := RX12) (T := TX12) (N := 38) hx hb hts (mm_i inlX12) hown hK.1 hP 0 rfl rfl 5 (by decide) (mm_h hts mm_w146) (fun _ h9 => h9) rfl dX12_four_8 ?_
    refine lv_aload_n hx hb dX12_four_11 rfl (lv_at hl 1 rfl) ?_
    refine va_get (D := G) (ci := 12) (v := .int 16) (C := RX12) (T := TX12) (N := 38) hx hb hts (mm_i inlX12) hown hK.1 hP 0 rfl rfl 6 (by decide) (mm_h hts mm_w178) (fun _ h9 => h9) rfl dX12_four_12 ?_
    refine lv_iload_n hx hb dX12_four_15 rfl (lv_at hl 2 rfl) ?_
    refine lv_iload_n hx hb dX12_four_16 rfl (lv_at hl 0 rfl) ?_
    refine lv_ishr hx hb dX12_four_17 ?_
    refine lv_topi (fun v3 ev3 => ?_)
    obtain ⟨v4, ev4⟩ : ∃ y : Int32, y = v3.toInt8.toInt32 := ⟨_, rfl⟩
    refine lv_i2b hx hb dX12_four_18 ev4.symm ?_
    have rv4 : mm_rg v4 (-128) 127 := mm_i2b ev4
    refine va_bast hx hb hK.1 hP hD hS 1 0 rfl rfl (mm_in mm_k16 (by decide)) dX12_four_19 ?_
    clear hP hD hS
    clear H locs
    obtain ⟨g5, eg5⟩ : ∃ z : Nat → Int32, z = upd f_0 (16 : Int32).toNatClampNeg (vp_nar .byte v4) := ⟨_, rfl⟩
    rw [← eg5]
    intro H locs (hP : va_P G vwCl [(a_0, .inr (12, [.int k_0, .ref a_1, .ref a_2, .ref a_3, .ref a_4, .ref a_5, .int 16, .int k_1, .int k_2, .int k_3, .int k_4, .long k_5, .int k_6, .int k_7, .int k_8, .int k_9, .ref a_6, .ref a_7, .ref a_8, .ref a_9, .ref a_10, .ref a_11, .ref a_12, .ref a_13, .ref a_14, .ref a_15, .ref a_16, .ref a_17, .ref a_18, .int k_10, .int k_11, .int k_12, .int k_13, .int k_14, .int k_15, .ref a_19, .int k_16, .ref a_20])), (a_5, .inl (cy 0, 600, .inl g5))] H) (hD : va_D A [(a_0, .inr (12, [.int k_0, .ref a_1, .ref a_2, .ref a_3, .ref a_4, .ref a_5, .int 16, .int k_1, .int k_2, .int k_3, .int k_4, .long k_5, .int k_6, .int k_7, .int k_8, .int k_9, .ref a_6, .ref a_7, .ref a_8, .ref a_9, .ref a_10, .ref a_11, .ref a_12, .ref a_13, .ref a_14, .ref a_15, .ref a_16, .ref a_17, .ref a_18, .int k_10, .int k_11, .int k_12, .int k_13, .int k_14, .int k_15, .ref a_19, .int k_16, .ref a_20])), (a_5, .inl (cy 0, 600, .inl g5))]) hS
    have rg5 : mm_ar g5 (-128) 127 := by rw [eg5]; exact mm_ar_upd (mm_ar_wk h0 (by decide)) (mm_nb _) _
    refine lv_aload_n hx hb dX12_four_20 rfl (lv_at hl 1 rfl) ?_
    refine lv_dup hx hb dX12_four_21 rfl ?_
    refine va_get (D := G) (ci := 12) (v := .int 16) (C := RX12) (T := TX12) (N := 38) hx hb hts (mm_i inlX12) hown hK.1 hP 0 rfl rfl 6 (by decide) (mm_h hts mm_w178) (fun _ h9 => h9) rfl dX12_four_22 ?_
    refine lv_iconst (v := 1) hx hb dX12_four_25 (by decide) ?_
    refine lv_iadd hx hb dX12_four_26 ?_
    refine lv_topi (fun v6 ev6 => ?_)
    obtain rfl : v6 = 17 := ev6.trans (by decide)
    refine va_put (D := G) (ci := 12) (v := .int 17) (ty := tyX12 6) (C := RX12) (T := TX12) (N := 38) hx hb hts (mm_i inlX12) tyX12 tyX12_ok nmX12 hown hK.1 hP hD hS 0 rfl rfl 6 (by decide) (mm_h hts mm_w178) (fun _ h9 => h9) rfl (tyX12_ok 6 (by decide)) rfl rfl (Nat.le_of_ble_eq_true rfl) dX12_four_27 ?_
    clear hP hD hS
    clear H locs
    intro H locs (hP : va_P G vwCl [(a_0, .inr (12, [.int k_0, .ref a_1, .ref a_2, .ref a_3, .ref a_4, .ref a_5, .int 17, .int k_1, .int k_2, .int k_3, .int k_4, .long k_5, .int k_6, .int k_7, .int k_8, .int k_9, .ref a_6, .ref a_7, .ref a_8, .ref a_9, .ref a_10, .ref a_11, .ref a_12, .ref a_13, .ref a_14, .ref a_15, .ref a_16, .ref a_17, .ref a_18, .int k_10, .int k_11, .int k_12, .int k_13, .int k_14, .int k_15, .ref a_19, .int k_16, .ref a_20])), (a_5, .inl (cy 0, 600, .inl g5))] H) (hD : va_D A [(a_0, .inr (12, [.int k_0, .ref a_1, .ref a_2, .ref a_3, .ref a_4, .ref a_5, .int 17, .int k_1, .int k_2, .int k_3, .int k_4, .long k_5, .int k_6, .int k_7, .int k_8, .int k_9, .ref a_6, .ref a_7, .ref a_8, .ref a_9, .ref a_10, .ref a_11, .ref a_12, .ref a_13, .ref a_14, .ref a_15, .ref a_16, .ref a_17, .ref a_18, .int k_10, .int k_11, .int k_12, .int k_13, .int k_14, .int k_15, .ref a_19, .int k_16, .ref a_20])), (a_5, .inl (cy 0, 600, .inl g5))]) hS
    refine lv_iinc (v := 16) (lv' := [(2, .int 16), (0, .ref a_0), (1, .int i_0)]) hx hb dX12_four_30 hl (k := 0) rfl (by decide) (by decide) rfl ?_
    clear hl
    clear ls
    intro ls hl
    refine lv_goto (tgt := 3) hx hb dX12_four_33 (by decide) ?_
    refine lv_iload_n hx hb dX12_four_3 rfl (lv_at hl 0 rfl) ?_
    refine lv_if_lt (tgt := 36) hx hb dX12_four_4 (by decide) (fun c7 => ?_) (fun c7 => ?_)
    · have q8 := mm_ltL (h := (-1)) (mm_lt c7) mm_k16 mm_k0 (by decide)
      exact mm_no q8 (by decide)
    · refine lv_aload_n hx hb dX12_four_7 rfl (lv_at hl 1 rfl) ?_
      refine va_get (D := G) (ci := 12) (v := .ref a_5) (C := RX12) (T := TX12) (N := 38) hx hb hts (mm_i inlX12) hown hK.1 hP 0 rfl rfl 5 (by decide) (mm_h hts mm_w146) (fun _ h9 => h9) rfl dX12_four_8 ?_
      refine lv_aload_n hx hb dX12_four_11 rfl (lv_at hl 1 rfl) ?_
      refine va_get (D := G) (ci := 12) (v := .int 17) (C := RX12) (T := TX12) (N := 38) hx hb hts (mm_i inlX12) hown hK.1 hP 0 rfl rfl 6 (by decide) (mm_h hts mm_w178) (fun _ h9 => h9) rfl dX12_four_12 ?_
      refine lv_iload_n hx hb dX12_four_15 rfl (lv_at hl 2 rfl) ?_
      refine lv_iload_n hx hb dX12_four_16 rfl (lv_at hl 0 rfl) ?_
      refine lv_ishr hx hb dX12_four_17 ?_
      refine lv_topi (fun v9 ev9 => ?_)
      obtain ⟨v10, ev10⟩ : ∃ y : Int32, y = v9.toInt8.toInt32 := ⟨_, rfl⟩
      refine lv_i2b hx hb dX12_four_18 ev10.symm ?_
      have rv10 : mm_rg v10 (-128) 127 := mm_i2b ev10
      refine va_bast hx hb hK.1 hP hD hS 1 0 rfl rfl (mm_in mm_k17 (by decide)) dX12_four_19 ?_
      clear hP hD hS
      clear H locs
      obtain ⟨g11, eg11⟩ : ∃ z : Nat → Int32, z = upd g5 (17 : Int32).toNatClampNeg (vp_nar .byte v10) := ⟨_, rfl⟩
      rw [← eg11]
      intro H locs (hP : va_P G vwCl [(a_0, .inr (12, [.int k_0, .ref a_1, .ref a_2, .ref a_3, .ref a_4, .ref a_5, .int 17, .int k_1, .int k_2, .int k_3, .int k_4, .long k_5, .int k_6, .int k_7, .int k_8, .int k_9, .ref a_6, .ref a_7, .ref a_8, .ref a_9, .ref a_10, .ref a_11, .ref a_12, .ref a_13, .ref a_14, .ref a_15, .ref a_16, .ref a_17, .ref a_18, .int k_10, .int k_11, .int k_12, .int k_13, .int k_14, .int k_15, .ref a_19, .int k_16, .ref a_20])), (a_5, .inl (cy 0, 600, .inl g11))] H) (hD : va_D A [(a_0, .inr (12, [.int k_0, .ref a_1, .ref a_2, .ref a_3, .ref a_4, .ref a_5, .int 17, .int k_1, .int k_2, .int k_3, .int k_4, .long k_5, .int k_6, .int k_7, .int k_8, .int k_9, .ref a_6, .ref a_7, .ref a_8, .ref a_9, .ref a_10, .ref a_11, .ref a_12, .ref a_13, .ref a_14, .ref a_15, .ref a_16, .ref a_17, .ref a_18, .int k_10, .int k_11, .int k_12, .int k_13, .int k_14, .int k_15, .ref a_19, .int k_16, .ref a_20])), (a_5, .inl (cy 0, 600, .inl g11))]) hS
      have rg11 : mm_ar g11 (-128) 127 := by rw [eg11]; exact mm_ar_upd (mm_ar_wk rg5 (by decide)) (mm_nb _) _
      refine lv_aload_n hx hb dX12_four_20 rfl (lv_at hl 1 rfl) ?_
      refine lv_dup hx hb dX12_four_21 rfl ?_
      refine va_get (D := G) (ci := 12) (v := .int 17) (C := RX12) (T := TX12) (N := 38) hx hb hts (mm_i inlX12) hown hK.1 hP 0 rfl rfl 6 (by decide) (mm_h hts mm_w178) (fun _ h9 => h9) rfl dX12_four_22 ?_
      refine lv_iconst (v := 1) hx hb dX12_four_25 (by decide) ?_
      refine lv_iadd hx hb dX12_four_26 ?_
      refine lv_topi (fun v12 ev12 => ?_)
      obtain rfl : v12 = 18 := ev12.trans (by decide)
      refine va_put (D := G) (ci := 12) (v := .int 18) (ty := tyX12 6) (C := RX12) (T := TX12) (N := 38) hx hb hts (mm_i inlX12) tyX12 tyX12_ok nmX12 hown hK.1 hP hD hS 0 rfl rfl 6 (by decide) (mm_h hts mm_w178) (fun _ h9 => h9) rfl (tyX12_ok 6 (by decide)) rfl rfl (Nat.le_of_ble_eq_true rfl) dX12_four_27 ?_
      clear hP hD hS
      clear H locs
      intro H locs (hP : va_P G vwCl [(a_0, .inr (12, [.int k_0, .ref a_1, .ref a_2, .ref a_3, .ref a_4, .ref a_5, .int 18, .int k_1, .int k_2, .int k_3, .int k_4, .long k_5, .int k_6, .int k_7, .int k_8, .int k_9, .ref a_6, .ref a_7, .ref a_8, .ref a_9, .ref a_10, .ref a_11, .ref a_12, .ref a_13, .ref a_14, .ref a_15, .ref a_16, .ref a_17, .ref a_18, .int k_10, .int k_11, .int k_12, .int k_13, .int k_14, .int k_15, .ref a_19, .int k_16, .ref a_20])), (a_5, .inl (cy 0, 600, .inl g11))] H) (hD : va_D A [(a_0, .inr (12, [.int k_0, .ref a_1, .ref a_2, .ref a_3, .ref a_4, .ref a_5, .int 18, .int k_1, .int k_2, .int k_3, .int k_4, .long k_5, .int k_6, .int k_7, .int k_8, .int k_9, .ref a_6, .ref a_7, .ref a_8, .ref a_9, .ref a_10, .ref a_11, .ref a_12, .ref a_13, .ref a_14, .ref a_15, .ref a_16, .ref a_17, .ref a_18, .int k_10, .int k_11, .int k_12, .int k_13, .int k_14, .int k_15, .ref a_19, .int k_16, .ref a_20])), (a_5, .inl (cy 0, 600, .inl g11))]) hS
      refine lv_iinc (v := 8) (lv' := [(2, .int 8), (0, .ref a_0), (1, .int i_0)]) hx hb dX12_four_30 hl (k := 0) rfl (by decide) (by decide) rfl ?_
      clear hl
      clear ls
      intro ls hl
      refine lv_goto (tgt := 3) hx hb dX12_four_33 (by decide) ?_
      refine lv_iload_n hx hb dX12_four_3 rfl (lv_at hl 0 rfl) ?_
      refine lv_if_lt (tgt := 36) hx hb dX12_four_4 (by decide) (fun c13 => ?_) (fun c13 => ?_)
      · have q14 := mm_ltL (h := (-1)) (mm_lt c13) mm_k8 mm_k0 (by decide)
        exact mm_no q14 (by decide)
      · refine lv_aload_n hx hb dX12_four_7 rfl (lv_at hl 1 rfl) ?_
        refine va_get (D := G) (ci := 12) (v := .ref a_5) (C := RX12) (T := TX12) (N := 38) hx hb hts (mm_i inlX12) hown hK.1 hP 0 rfl rfl 5 (by decide) (mm_h hts mm_w146) (fun _ h9 => h9) rfl dX12_four_8 ?_
        refine lv_aload_n hx hb dX12_four_11 rfl (lv_at hl 1 rfl) ?_
        refine va_get (D := G) (ci := 12) (v := .int 18) (C := RX12) (T := TX12) (N := 38) hx hb hts (mm_i inlX12) hown hK.1 hP 0 rfl rfl 6 (by decide) (mm_h hts mm_w178) (fun _ h9 => h9) rfl dX12_four_12 ?_
        refine lv_iload_n hx hb dX12_four_15 rfl (lv_at hl 2 rfl) ?_
        refine lv_iload_n hx hb dX12_four_16 rfl (lv_at hl 0 rfl) ?_
        refine lv_ishr hx hb dX12_four_17 ?_
        refine lv_topi (fun v15 ev15 => ?_)
        obtain ⟨v16, ev16⟩ : ∃ y : Int32, y = v15.toInt8.toInt32 := ⟨_, rfl⟩
        refine lv_i2b hx hb dX12_four_18 ev16.symm ?_
        have rv16 : mm_rg v16 (-128) 127 := mm_i2b ev16
        refine va_bast hx hb hK.1 hP hD hS 1 0 rfl rfl (mm_in mm_k18 (by decide)) dX12_four_19 ?_
        clear hP hD hS
        clear H locs
        obtain ⟨g17, eg17⟩ : ∃ z : Nat → Int32, z = upd g11 (18 : Int32).toNatClampNeg (vp_nar .byte v16) := ⟨_, rfl⟩
        rw [← eg17]
        intro H locs (hP : va_P G vwCl [(a_0, .inr (12, [.int k_0, .ref a_1, .ref a_2, .ref a_3, .ref a_4, .ref a_5, .int 18, .int k_1, .int k_2, .int k_3, .int k_4, .long k_5, .int k_6, .int k_7, .int k_8, .int k_9, .ref a_6, .ref a_7, .ref a_8, .ref a_9, .ref a_10, .ref a_11, .ref a_12, .ref a_13, .ref a_14, .ref a_15, .ref a_16, .ref a_17, .ref a_18, .int k_10, .int k_11, .int k_12, .int k_13, .int k_14, .int k_15, .ref a_19, .int k_16, .ref a_20])), (a_5, .inl (cy 0, 600, .inl g17))] H) (hD : va_D A [(a_0, .inr (12, [.int k_0, .ref a_1, .ref a_2, .ref a_3, .ref a_4, .ref a_5, .int 18, .int k_1, .int k_2, .int k_3, .int k_4, .long k_5, .int k_6, .int k_7, .int k_8, .int k_9, .ref a_6, .ref a_7, .ref a_8, .ref a_9, .ref a_10, .ref a_11, .ref a_12, .ref a_13, .ref a_14, .ref a_15, .ref a_16, .ref a_17, .ref a_18, .int k_10, .int k_11, .int k_12, .int k_13, .int k_14, .int k_15, .ref a_19, .int k_16, .ref a_20])), (a_5, .inl (cy 0, 600, .inl g17))]) hS
        have rg17 : mm_ar g17 (-128) 127 := by rw [eg17]; exact mm_ar_upd (mm_ar_wk rg11 (by decide)) (mm_nb _) _
        refine lv_aload_n hx hb dX12_four_20 rfl (lv_at hl 1 rfl) ?_
        refine lv_dup hx hb dX12_four_21 rfl ?_
        refine va_get (D := G) (ci := 12) (v := .int 18) (C := RX12) (T := TX12) (N := 38) hx hb hts (mm_i inlX12) hown hK.1 hP 0 rfl rfl 6 (by decide) (mm_h hts mm_w178) (fun _ h9 => h9) rfl dX12_four_22 ?_
        refine lv_iconst (v := 1) hx hb dX12_four_25 (by decide) ?_
        refine lv_iadd hx hb dX12_four_26 ?_
        refine lv_topi (fun v18 ev18 => ?_)
        obtain rfl : v18 = 19 := ev18.trans (by decide)
        refine va_put (D := G) (ci := 12) (v := .int 19) (ty := tyX12 6) (C := RX12) (T := TX12) (N := 38) hx hb hts (mm_i inlX12) tyX12 tyX12_ok nmX12 hown hK.1 hP hD hS 0 rfl rfl 6 (by decide) (mm_h hts mm_w178) (fun _ h9 => h9) rfl (tyX12_ok 6 (by decide)) rfl rfl (Nat.le_of_ble_eq_true rfl) dX12_four_27 ?_
        clear hP hD hS
        clear H locs
        intro H locs (hP : va_P G vwCl [(a_0, .inr (12, [.int k_0, .ref a_1, .ref a_2, .ref a_3, .ref a_4, .ref a_5, .int 19, .int k_1, .int k_2, .int k_3, .int k_4, .long k_5, .int k_6, .int k_7, .int k_8, .int k_9, .ref a_6, .ref a_7, .ref a_8, .ref a_9, .ref a_10, .ref a_11, .ref a_12, .ref a_13, .ref a_14, .ref a_15, .ref a_16, .ref a_17, .ref a_18, .int k_10, .int k_11, .int k_12, .int k_13, .int k_14, .int k_15, .ref a_19, .int k_16, .ref a_20])), (a_5, .inl (cy 0, 600, .inl g17))] H) (hD : va_D A [(a_0, .inr (12, [.int k_0, .ref a_1, .ref a_2, .ref a_3, .ref a_4, .ref a_5, .int 19, .int k_1, .int k_2, .int k_3, .int k_4, .long k_5, .int k_6, .int k_7, .int k_8, .int k_9, .ref a_6, .ref a_7, .ref a_8, .ref a_9, .ref a_10, .ref a_11, .ref a_12, .ref a_13, .ref a_14, .ref a_15, .ref a_16, .ref a_17, .ref a_18, .int k_10, .int k_11, .int k_12, .int k_13, .int k_14, .int k_15, .ref a_19, .int k_16, .ref a_20])), (a_5, .inl (cy 0, 600, .inl g17))]) hS
        refine lv_iinc (v := 0) (lv' := [(2, .int 0), (0, .ref a_0), (1, .int i_0)]) hx hb dX12_four_30 hl (k := 0) rfl (by decide) (by decide) rfl ?_
        clear hl
        clear ls
        intro ls hl
        refine lv_goto (tgt := 3) hx hb dX12_four_33 (by decide) ?_
        refine lv_iload_n hx hb dX12_four_3 rfl (lv_at hl 0 rfl) ?_
        refine lv_if_lt (tgt := 36) hx hb dX12_four_4 (by decide) (fun c19 => ?_) (fun c19 => ?_)
        · have q20 := mm_ltL (h := (-1)) (mm_lt c19) mm_k0 mm_k0 (by decide)
          exact mm_no q20 (by decide)
        · refine lv_aload_n hx hb dX12_four_7 rfl (lv_at hl 1 rfl) ?_
          refine va_get (D := G) (ci := 12) (v := .ref a_5) (C := RX12) (T := TX12) (N := 38) hx hb hts (mm_i inlX12) hown hK.1 hP 0 rfl rfl 5 (by decide) (mm_h hts mm_w146) (fun _ h9 => h9) rfl dX12_four_8 ?_
          refine lv_aload_n hx hb dX12_four_11 rfl (lv_at hl 1 rfl) ?_
          refine va_get (D := G) (ci := 12) (v := .int 19) (C := RX12) (T := TX12) (N := 38) hx hb hts (mm_i inlX12) hown hK.1 hP 0 rfl rfl 6 (by decide) (mm_h hts mm_w178) (fun _ h9 => h9) rfl dX12_four_12 ?_
          refine lv_iload_n hx hb dX12_four_15 rfl (lv_at hl 2 rfl) ?_
          refine lv_iload_n hx hb dX12_four_16 rfl (lv_at hl 0 rfl) ?_
          refine lv_ishr hx hb dX12_four_17 ?_
          refine lv_topi (fun v21 ev21 => ?_)
          obtain ⟨v22, ev22⟩ : ∃ y : Int32, y = v21.toInt8.toInt32 := ⟨_, rfl⟩
          refine lv_i2b hx hb dX12_four_18 ev22.symm ?_
          have rv22 : mm_rg v22 (-128) 127 := mm_i2b ev22
          refine va_bast hx hb hK.1 hP hD hS 1 0 rfl rfl (mm_in mm_k19 (by decide)) dX12_four_19 ?_
          clear hP hD hS
          clear H locs
          obtain ⟨g23, eg23⟩ : ∃ z : Nat → Int32, z = upd g17 (19 : Int32).toNatClampNeg (vp_nar .byte v22) := ⟨_, rfl⟩
          rw [← eg23]
          intro H locs (hP : va_P G vwCl [(a_0, .inr (12, [.int k_0, .ref a_1, .ref a_2, .ref a_3, .ref a_4, .ref a_5, .int 19, .int k_1, .int k_2, .int k_3, .int k_4, .long k_5, .int k_6, .int k_7, .int k_8, .int k_9, .ref a_6, .ref a_7, .ref a_8, .ref a_9, .ref a_10, .ref a_11, .ref a_12, .ref a_13, .ref a_14, .ref a_15, .ref a_16, .ref a_17, .ref a_18, .int k_10, .int k_11, .int k_12, .int k_13, .int k_14, .int k_15, .ref a_19, .int k_16, .ref a_20])), (a_5, .inl (cy 0, 600, .inl g23))] H) (hD : va_D A [(a_0, .inr (12, [.int k_0, .ref a_1, .ref a_2, .ref a_3, .ref a_4, .ref a_5, .int 19, .int k_1, .int k_2, .int k_3, .int k_4, .long k_5, .int k_6, .int k_7, .int k_8, .int k_9, .ref a_6, .ref a_7, .ref a_8, .ref a_9, .ref a_10, .ref a_11, .ref a_12, .ref a_13, .ref a_14, .ref a_15, .ref a_16, .ref a_17, .ref a_18, .int k_10, .int k_11, .int k_12, .int k_13, .int k_14, .int k_15, .ref a_19, .int k_16, .ref a_20])), (a_5, .inl (cy 0, 600, .inl g23))]) hS
          have rg23 : mm_ar g23 (-128) 127 := by rw [eg23]; exact mm_ar_upd (mm_ar_wk rg17 (by decide)) (mm_nb _) _
          refine lv_aload_n hx hb dX12_four_20 rfl (lv_at hl 1 rfl) ?_
          refine lv_dup hx hb dX12_four_21 rfl ?_
          refine va_get (D := G) (ci := 12) (v := .int 19) (C := RX12) (T := TX12) (N := 38) hx hb hts (mm_i inlX12) hown hK.1 hP 0 rfl rfl 6 (by decide) (mm_h hts mm_w178) (fun _ h9 => h9) rfl dX12_four_22 ?_
          refine lv_iconst (v := 1) hx hb dX12_four_25 (by decide) ?_
          refine lv_iadd hx hb dX12_four_26 ?_
          refine lv_topi (fun v24 ev24 => ?_)
          obtain rfl : v24 = 20 := ev24.trans (by decide)
          refine va_put (D := G) (ci := 12) (v := .int 20) (ty := tyX12 6) (C := RX12) (T := TX12) (N := 38) hx hb hts (mm_i inlX12) tyX12 tyX12_ok nmX12 hown hK.1 hP hD hS 0 rfl rfl 6 (by decide) (mm_h hts mm_w178) (fun _ h9 => h9) rfl (tyX12_ok 6 (by decide)) rfl rfl (Nat.le_of_ble_eq_true rfl) dX12_four_27 ?_
          clear hP hD hS
          clear H locs
          intro H locs (hP : va_P G vwCl [(a_0, .inr (12, [.int k_0, .ref a_1, .ref a_2, .ref a_3, .ref a_4, .ref a_5, .int 20, .int k_1, .int k_2, .int k_3, .int k_4, .long k_5, .int k_6, .int k_7, .int k_8, .int k_9, .ref a_6, .ref a_7, .ref a_8, .ref a_9, .ref a_10, .ref a_11, .ref a_12, .ref a_13, .ref a_14, .ref a_15, .ref a_16, .ref a_17, .ref a_18, .int k_10, .int k_11, .int k_12, .int k_13, .int k_14, .int k_15, .ref a_19, .int k_16, .ref a_20])), (a_5, .inl (cy 0, 600, .inl g23))] H) (hD : va_D A [(a_0, .inr (12, [.int k_0, .ref a_1, .ref a_2, .ref a_3, .ref a_4, .ref a_5, .int 20, .int k_1, .int k_2, .int k_3, .int k_4, .long k_5, .int k_6, .int k_7, .int k_8, .int k_9, .ref a_6, .ref a_7, .ref a_8, .ref a_9, .ref a_10, .ref a_11, .ref a_12, .ref a_13, .ref a_14, .ref a_15, .ref a_16, .ref a_17, .ref a_18, .int k_10, .int k_11, .int k_12, .int k_13, .int k_14, .int k_15, .ref a_19, .int k_16, .ref a_20])), (a_5, .inl (cy 0, 600, .inl g23))]) hS
          refine lv_iinc (v := (-8)) (lv' := [(2, .int (-8)), (0, .ref a_0), (1, .int i_0)]) hx hb dX12_four_30 hl (k := 0) rfl (by decide) (by decide) rfl ?_
          clear hl
          clear ls
          intro ls hl
          refine lv_goto (tgt := 3) hx hb dX12_four_33 (by decide) ?_
          refine lv_iload_n hx hb dX12_four_3 rfl (lv_at hl 0 rfl) ?_
          refine lv_if_lt (tgt := 36) hx hb dX12_four_4 (by decide) (fun c25 => ?_) (fun c25 => ?_)
          · subst hAe
            rw [hQ]
            exact W.vret hx hb hr (fun t ht hW => ⟨⟨g23, rfl, rg23, by rw [ht]; exact hP, hK.warm hW, hD⟩, hS.F ht⟩) hS.2.2 dX12_four_36
          · have q26 := mm_leL (mm_nlt c25) mm_k0 mm_km8
            exact mm_no q26 (by decide)

set_option maxHeartbeats 4000000 in
set_option maxRecDepth 100000 in
theorem K26_X12_four (l : Launch) (G : va_G) (cy : Nat → ClassId) (sz : Nat) (a_0 : Nat) (i_0 : Int32) (k_0 : Int32) (a_1 : Nat) (a_2 : Nat) (a_3 : Nat) (a_4 : Nat) (a_5 : Nat) (i_1 : Int32) (i_2 : Int32) (i_3 : Int32) (i_4 : Int32) (j_0 : Int64) (i_5 : Int32) (i_6 : Int32) (i_7 : Int32) (i_8 : Int32) (a_6 : Nat) (a_7 : Nat) (a_8 : Nat) (a_9 : Nat) (a_10 : Nat) (a_11 : Nat) (a_12 : Nat) (a_13 : Nat) (a_14 : Nat) (a_15 : Nat) (a_16 : Nat) (a_17 : Nat) (a_18 : Nat) (i_9 : Int32) (i_10 : Int32) (i_11 : Int32) (i_12 : Int32) (i_13 : Int32) (i_14 : Int32) (a_19 : Nat) (i_15 : Int32) (a_20 : Nat)   : mm_CV l yX12_four (mm_ws yX12_four cX12_four 3 (none)) ({ frames := 0, cells := 0, slots := 0, locals := 0 } : Room) G cy sz [(a_0, .inr (12, [.int k_0, .ref a_1, .ref a_2, .ref a_3, .ref a_4, .ref a_5, .int 0, .int i_1, .int i_2, .int i_3, .int i_4, .long j_0, .int i_5, .int i_6, .int i_7, .int i_8, .ref a_6, .ref a_7, .ref a_8, .ref a_9, .ref a_10, .ref a_11, .ref a_12, .ref a_13, .ref a_14, .ref a_15, .ref a_16, .ref a_17, .ref a_18, .int i_9, .int i_10, .int i_11, .int i_12, .int i_13, .int i_14, .ref a_19, .int i_15, .ref a_20])), (a_5, .inl (cy 0, 600, .inl (fun _ => 0)))] [.ref a_0, .int i_0] (fun u : (Nat → Int32) => [(a_0, .inr (12, [.int k_0, .ref a_1, .ref a_2, .ref a_3, .ref a_4, .ref a_5, .int 4, .int i_1, .int i_2, .int i_3, .int i_4, .long j_0, .int i_5, .int i_6, .int i_7, .int i_8, .ref a_6, .ref a_7, .ref a_8, .ref a_9, .ref a_10, .ref a_11, .ref a_12, .ref a_13, .ref a_14, .ref a_15, .ref a_16, .ref a_17, .ref a_18, .int i_9, .int i_10, .int i_11, .int i_12, .int i_13, .int i_14, .ref a_19, .int i_15, .ref a_20])), (a_5, .inl (cy 0, 600, .inl u))]) (fun u : (Nat → Int32) => mm_ar u (-128) 127) 0 0 := by
  refine mm_begin (lv := [(0, .ref a_0), (1, .int i_0)]) (by decide) (Nat.le_of_ble_eq_true rfl) rfl ?_
  intro p e s m below meth c A ls R args Q H locs hRe hQ hAe hx hb hr hlocks hml hown hnm hts hsz hA hS hP hK hD hl
  have hRf : R.frames = 0 := by rw [hRe]
  have hRl : R.locals = 0 := by rw [hRe]
  have hRc : R.cells = 0 := by rw [hRe]
  have hRs : R.slots = 0 := by rw [hRe]
  refine lv_bipush (v := 24) hx hb dX12_four_0 (by decide) ?_
  refine lv_istore_n (lv' := [(2, .int 24), (0, .ref a_0), (1, .int i_0)]) hx hb dX12_four_2 rfl hl (by decide) rfl ?_
  clear hl
  clear ls
  intro ls hl
  refine lv_iload_n hx hb dX12_four_3 rfl (lv_at hl 0 rfl) ?_
  refine lv_if_lt (tgt := 36) hx hb dX12_four_4 (by decide) (fun c1 => ?_) (fun c1 => ?_)
  · have q2 := mm_ltL (h := (-1)) (mm_lt c1) mm_k24 mm_k0 (by decide)
    exact mm_no q2 (by decide)
  · refine lv_aload_n hx hb dX12_four_7 rfl (lv_at hl 1 rfl) ?_
    refine va_get (D := G) (ci := 12) (v := .ref a_5) (C := RX12) (T := TX12) (N := 38) hx hb hts (mm_i inlX12) hown hK.1 hP 0 rfl rfl 5 (by decide) (mm_h hts mm_w146) (fun _ h9 => h9) rfl dX12_four_8 ?_
    refine lv_aload_n hx hb dX12_four_11 rfl (lv_at hl 1 rfl) ?_
    refine va_get (D := G) (ci := 12) (v := .int 0) (C := RX12) (T := TX12) (N := 38) hx hb hts (mm_i inlX12) hown hK.1 hP 0 rfl rfl 6 (by decide) (mm_h hts mm_w178) (fun _ h9 => h9) rfl dX12_four_12 ?_
    refine lv_iload_n hx hb dX12_four_15 rfl (lv_at hl 2 rfl) ?_
    refine lv_iload_n hx hb dX12_four_16 rfl (lv_at hl 0 rfl) ?_
    refine lv_ishr hx hb dX12_four_17 ?_
    refine lv_topi (fun v3 ev3 => ?_)
    obtain ⟨v4, ev4⟩ : ∃ y : Int32, y = v3.toInt8.toInt32 := ⟨_, rfl⟩
    refine lv_i2b hx hb dX12_four_18 ev4.symm ?_
    have rv4 : mm_rg v4 (-128) 127 := mm_i2b ev4
    refine va_bast hx hb hK.1 hP hD hS 1 0 rfl rfl (mm_in mm_k0 (by decide)) dX12_four_19 ?_
    clear hP hD hS
    clear H locs
    obtain ⟨g5, eg5⟩ : ∃ z : Nat → Int32, z = upd (fun _ => 0) (0 : Int32).toNatClampNeg (vp_nar .byte v4) := ⟨_, rfl⟩
    rw [← eg5]
    intro H locs (hP : va_P G vwCl [(a_0, .inr (12, [.int k_0, .ref a_1, .ref a_2, .ref a_3, .ref a_4, .ref a_5, .int 0, .int i_1, .int i_2, .int i_3, .int i_4, .long j_0, .int i_5, .int i_6, .int i_7, .int i_8, .ref a_6, .ref a_7, .ref a_8, .ref a_9, .ref a_10, .ref a_11, .ref a_12, .ref a_13, .ref a_14, .ref a_15, .ref a_16, .ref a_17, .ref a_18, .int i_9, .int i_10, .int i_11, .int i_12, .int i_13, .int i_14, .ref a_19, .int i_15, .ref a_20])), (a_5, .inl (cy 0, 600, .inl g5))] H) (hD : va_D A [(a_0, .inr (12, [.int k_0, .ref a_1, .ref a_2, .ref a_3, .ref a_4, .ref a_5, .int 0, .int i_1, .int i_2, .int i_3, .int i_4, .long j_0, .int i_5, .int i_6, .int i_7, .int i_8, .ref a_6, .ref a_7, .ref a_8, .ref a_9, .ref a_10, .ref a_11, .ref a_12, .ref a_13, .ref a_14, .ref a_15, .ref a_16, .ref a_17, .ref a_18, .int i_9, .int i_10, .int i_11, .int i_12, .int i_13, .int i_14, .ref a_19, .int i_15, .ref a_20])), (a_5, .inl (cy 0, 600, .inl g5))]) hS
    have rg5 : mm_ar g5 (-128) 127 := by rw [eg5]; exact mm_ar_upd (mm_ar_wk (mm_ar_c mm_k0) (by decide)) (mm_nb _) _
    refine lv_aload_n hx hb dX12_four_20 rfl (lv_at hl 1 rfl) ?_
    refine lv_dup hx hb dX12_four_21 rfl ?_
    refine va_get (D := G) (ci := 12) (v := .int 0) (C := RX12) (T := TX12) (N := 38) hx hb hts (mm_i inlX12) hown hK.1 hP 0 rfl rfl 6 (by decide) (mm_h hts mm_w178) (fun _ h9 => h9) rfl dX12_four_22 ?_
    refine lv_iconst (v := 1) hx hb dX12_four_25 (by decide) ?_
    refine lv_iadd hx hb dX12_four_26 ?_
    refine lv_topi (fun v6 ev6 => ?_)
    obtain rfl : v6 = 1 := ev6.trans (by decide)
    refine va_put (D := G) (ci := 12) (v := .int 1) (ty := tyX12 6) (C := RX12) (T := TX12) (N := 38) hx hb hts (mm_i inlX12) tyX12 tyX12_ok nmX12 hown hK.1 hP hD hS 0 rfl rfl 6 (by decide) (mm_h hts mm_w178) (fun _ h9 => h9) rfl (tyX12_ok 6 (by decide)) rfl rfl (Nat.le_of_ble_eq_true rfl) dX12_four_27 ?_
    clear hP hD hS
    clear H locs
    intro H locs (hP : va_P G vwCl [(a_0, .inr (12, [.int k_0, .ref a_1, .ref a_2, .ref a_3, .ref a_4, .ref a_5, .int 1, .int i_1, .int i_2, .int i_3, .int i_4, .long j_0, .int i_5, .int i_6, .int i_7, .int i_8, .ref a_6, .ref a_7, .ref a_8, .ref a_9, .ref a_10, .ref a_11, .ref a_12, .ref a_13, .ref a_14, .ref a_15, .ref a_16, .ref a_17, .ref a_18, .int i_9, .int i_10, .int i_11, .int i_12, .int i_13, .int i_14, .ref a_19, .int i_15, .ref a_20])), (a_5, .inl (cy 0, 600, .inl g5))] H) (hD : va_D A [(a_0, .inr (12, [.int k_0, .ref a_1, .ref a_2, .ref a_3, .ref a_4, .ref a_5, .int 1, .int i_1, .int i_2, .int i_3, .int i_4, .long j_0, .int i_5, .int i_6, .int i_7, .int i_8, .ref a_6, .ref a_7, .ref a_8, .ref a_9, .ref a_10, .ref a_11, .ref a_12, .ref a_13, .ref a_14, .ref a_15, .ref a_16, .ref a_17, .ref a_18, .int i_9, .int i_10, .int i_11, .int i_12, .int i_13, .int i_14, .ref a_19, .int i_15, .ref a_20])), (a_5, .inl (cy 0, 600, .inl g5))]) hS
    refine lv_iinc (v := 16) (lv' := [(2, .int 16), (0, .ref a_0), (1, .int i_0)]) hx hb dX12_four_30 hl (k := 0) rfl (by decide) (by decide) rfl ?_
    clear hl
    clear ls
    intro ls hl
    refine lv_goto (tgt := 3) hx hb dX12_four_33 (by decide) ?_
    refine lv_iload_n hx hb dX12_four_3 rfl (lv_at hl 0 rfl) ?_
    refine lv_if_lt (tgt := 36) hx hb dX12_four_4 (by decide) (fun c7 => ?_) (fun c7 => ?_)
    · have q8 := mm_ltL (h := (-1)) (mm_lt c7) mm_k16 mm_k0 (by decide)
      exact mm_no q8 (by decide)
    · refine lv_aload_n hx hb dX12_four_7 rfl (lv_at hl 1 rfl) ?_
      refine va_get (D := G) (ci := 12) (v := .ref a_5) (C := RX12) (T := TX12) (N := 38) hx hb hts (mm_i inlX12) hown hK.1 hP 0 rfl rfl 5 (by decide) (mm_h hts mm_w146) (fun _ h9 => h9) rfl dX12_four_8 ?_
      refine lv_aload_n hx hb dX12_four_11 rfl (lv_at hl 1 rfl) ?_
      refine va_get (D := G) (ci := 12) (v := .int 1) (C := RX12) (T := TX12) (N := 38) hx hb hts (mm_i inlX12) hown hK.1 hP 0 rfl rfl 6 (by decide) (mm_h hts mm_w178) (fun _ h9 => h9) rfl dX12_four_12 ?_
      refine lv_iload_n hx hb dX12_four_15 rfl (lv_at hl 2 rfl) ?_
      refine lv_iload_n hx hb dX12_four_16 rfl (lv_at hl 0 rfl) ?_
      refine lv_ishr hx hb dX12_four_17 ?_
      refine lv_topi (fun v9 ev9 => ?_)
      obtain ⟨v10, ev10⟩ : ∃ y : Int32, y = v9.toInt8.toInt32 := ⟨_, rfl⟩
      refine lv_i2b hx hb dX12_four_18 ev10.symm ?_
      have rv10 : mm_rg v10 (-128) 127 := mm_i2b ev10
      refine va_bast hx hb hK.1 hP hD hS 1 0 rfl rfl (mm_in mm_k1 (by decide)) dX12_four_19 ?_
      clear hP hD hS
      clear H locs
      obtain ⟨g11, eg11⟩ : ∃ z : Nat → Int32, z = upd g5 (1 : Int32).toNatClampNeg (vp_nar .byte v10) := ⟨_, rfl⟩
      rw [← eg11]
      intro H locs (hP : va_P G vwCl [(a_0, .inr (12, [.int k_0, .ref a_1, .ref a_2, .ref a_3, .ref a_4, .ref a_5, .int 1, .int i_1, .int i_2, .int i_3, .int i_4, .long j_0, .int i_5, .int i_6, .int i_7, .int i_8, .ref a_6, .ref a_7, .ref a_8, .ref a_9, .ref a_10, .ref a_11, .ref a_12, .ref a_13, .ref a_14, .ref a_15, .ref a_16, .ref a_17, .ref a_18, .int i_9, .int i_10, .int i_11, .int i_12, .int i_13, .int i_14, .ref a_19, .int i_15, .ref a_20])), (a_5, .inl (cy 0, 600, .inl g11))] H) (hD : va_D A [(a_0, .inr (12, [.int k_0, .ref a_1, .ref a_2, .ref a_3, .ref a_4, .ref a_5, .int 1, .int i_1, .int i_2, .int i_3, .int i_4, .long j_0, .int i_5, .int i_6, .int i_7, .int i_8, .ref a_6, .ref a_7, .ref a_8, .ref a_9, .ref a_10, .ref a_11, .ref a_12, .ref a_13, .ref a_14, .ref a_15, .ref a_16, .ref a_17, .ref a_18, .int i_9, .int i_10, .int i_11, .int i_12, .int i_13, .int i_14, .ref a_19, .int i_15, .ref a_20])), (a_5, .inl (cy 0, 600, .inl g11))]) hS
      have rg11 : mm_ar g11 (-128) 127 := by rw [eg11]; exact mm_ar_upd (mm_ar_wk rg5 (by decide)) (mm_nb _) _
      refine lv_aload_n hx hb dX12_four_20 rfl (lv_at hl 1 rfl) ?_
      refine lv_dup hx hb dX12_four_21 rfl ?_
      refine va_get (D := G) (ci := 12) (v := .int 1) (C := RX12) (T := TX12) (N := 38) hx hb hts (mm_i inlX12) hown hK.1 hP 0 rfl rfl 6 (by decide) (mm_h hts mm_w178) (fun _ h9 => h9) rfl dX12_four_22 ?_
      refine lv_iconst (v := 1) hx hb dX12_four_25 (by decide) ?_
      refine lv_iadd hx hb dX12_four_26 ?_
      refine lv_topi (fun v12 ev12 => ?_)
      obtain rfl : v12 = 2 := ev12.trans (by decide)
      refine va_put (D := G) (ci := 12) (v := .int 2) (ty := tyX12 6) (C := RX12) (T := TX12) (N := 38) hx hb hts (mm_i inlX12) tyX12 tyX12_ok nmX12 hown hK.1 hP hD hS 0 rfl rfl 6 (by decide) (mm_h hts mm_w178) (fun _ h9 => h9) rfl (tyX12_ok 6 (by decide)) rfl rfl (Nat.le_of_ble_eq_true rfl) dX12_four_27 ?_
      clear hP hD hS
      clear H locs
      intro H locs (hP : va_P G vwCl [(a_0, .inr (12, [.int k_0, .ref a_1, .ref a_2, .ref a_3, .ref a_4, .ref a_5, .int 2, .int i_1, .int i_2, .int i_3, .int i_4, .long j_0, .int i_5, .int i_6, .int i_7, .int i_8, .ref a_6, .ref a_7, .ref a_8, .ref a_9, .ref a_10, .ref a_11, .ref a_12, .ref a_13, .ref a_14, .ref a_15, .ref a_16, .ref a_17, .ref a_18, .int i_9, .int i_10, .int i_11, .int i_12, .int i_13, .int i_14, .ref a_19, .int i_15, .ref a_20])), (a_5, .inl (cy 0, 600, .inl g11))] H) (hD : va_D A [(a_0, .inr (12, [.int k_0, .ref a_1, .ref a_2, .ref a_3, .ref a_4, .ref a_5, .int 2, .int i_1, .int i_2, .int i_3, .int i_4, .long j_0, .int i_5, .int i_6, .int i_7, .int i_8, .ref a_6, .ref a_7, .ref a_8, .ref a_9, .ref a_10, .ref a_11, .ref a_12, .ref a_13, .ref a_14, .ref a_15, .ref a_16, .ref a_17, .ref a_18, .int i_9, .int i_10, .int i_11, .int i_12, .int i_13, .int i_14, .ref a_19, .int i_15, .ref a_20])), (a_5, .inl (cy 0, 600, .inl g11))]) hS
      refine lv_iinc (v := 8) (lv' := [(2, .int 8), (0, .ref a_0), (1, .int i_0)]) hx hb dX12_four_30 hl (k := 0) rfl (by decide) (by decide) rfl ?_
      clear hl
      clear ls
      intro ls hl
      refine lv_goto (tgt := 3) hx hb dX12_four_33 (by decide) ?_
      refine lv_iload_n hx hb dX12_four_3 rfl (lv_at hl 0 rfl) ?_
      refine lv_if_lt (tgt := 36) hx hb dX12_four_4 (by decide) (fun c13 => ?_) (fun c13 => ?_)
      · have q14 := mm_ltL (h := (-1)) (mm_lt c13) mm_k8 mm_k0 (by decide)
        exact mm_no q14 (by decide)
      · refine lv_aload_n hx hb dX12_four_7 rfl (lv_at hl 1 rfl) ?_
        refine va_get (D := G) (ci := 12) (v := .ref a_5) (C := RX12) (T := TX12) (N := 38) hx hb hts (mm_i inlX12) hown hK.1 hP 0 rfl rfl 5 (by decide) (mm_h hts mm_w146) (fun _ h9 => h9) rfl dX12_four_8 ?_
        refine lv_aload_n hx hb dX12_four_11 rfl (lv_at hl 1 rfl) ?_
        refine va_get (D := G) (ci := 12) (v := .int 2) (C := RX12) (T := TX12) (N := 38) hx hb hts (mm_i inlX12) hown hK.1 hP 0 rfl rfl 6 (by decide) (mm_h hts mm_w178) (fun _ h9 => h9) rfl dX12_four_12 ?_
        refine lv_iload_n hx hb dX12_four_15 rfl (lv_at hl 2 rfl) ?_
        refine lv_iload_n hx hb dX12_four_16 rfl (lv_at hl 0 rfl) ?_
        refine lv_ishr hx hb dX12_four_17 ?_
        refine lv_topi (fun v15 ev15 => ?_)
        obtain ⟨v16, ev16⟩ : ∃ y : Int32, y = v15.toInt8.toInt32 := ⟨_, rfl⟩
        refine lv_i2b hx hb dX12_four_18 ev16.symm ?_
        have rv16 : mm_rg v16 (-128) 127 := mm_i2b ev16
        refine va_bast hx hb hK.1 hP hD hS 1 0 rfl rfl (mm_in mm_k2 (by decide)) dX12_four_19 ?_
        clear hP hD hS
        clear H locs
        obtain ⟨g17, eg17⟩ : ∃ z : Nat → Int32, z = upd g11 (2 : Int32).toNatClampNeg (vp_nar .byte v16) := ⟨_, rfl⟩
        rw [← eg17]
        intro H locs (hP : va_P G vwCl [(a_0, .inr (12, [.int k_0, .ref a_1, .ref a_2, .ref a_3, .ref a_4, .ref a_5, .int 2, .int i_1, .int i_2, .int i_3, .int i_4, .long j_0, .int i_5, .int i_6, .int i_7, .int i_8, .ref a_6, .ref a_7, .ref a_8, .ref a_9, .ref a_10, .ref a_11, .ref a_12, .ref a_13, .ref a_14, .ref a_15, .ref a_16, .ref a_17, .ref a_18, .int i_9, .int i_10, .int i_11, .int i_12, .int i_13, .int i_14, .ref a_19, .int i_15, .ref a_20])), (a_5, .inl (cy 0, 600, .inl g17))] H) (hD : va_D A [(a_0, .inr (12, [.int k_0, .ref a_1, .ref a_2, .ref a_3, .ref a_4, .ref a_5, .int 2, .int i_1, .int i_2, .int i_3, .int i_4, .long j_0, .int i_5, .int i_6, .int i_7, .int i_8, .ref a_6, .ref a_7, .ref a_8, .ref a_9, .ref a_10, .ref a_11, .ref a_12, .ref a_13, .ref a_14, .ref a_15, .ref a_16, .ref a_17, .ref a_18, .int i_9, .int i_10, .int i_11, .int i_12, .int i_13, .int i_14, .ref a_19, .int i_15, .ref a_20])), (a_5, .inl (cy 0, 600, .inl g17))]) hS
        have rg17 : mm_ar g17 (-128) 127 := by rw [eg17]; exact mm_ar_upd (mm_ar_wk rg11 (by decide)) (mm_nb _) _
        refine lv_aload_n hx hb dX12_four_20 rfl (lv_at hl 1 rfl) ?_
        refine lv_dup hx hb dX12_four_21 rfl ?_
        refine va_get (D := G) (ci := 12) (v := .int 2) (C := RX12) (T := TX12) (N := 38) hx hb hts (mm_i inlX12) hown hK.1 hP 0 rfl rfl 6 (by decide) (mm_h hts mm_w178) (fun _ h9 => h9) rfl dX12_four_22 ?_
        refine lv_iconst (v := 1) hx hb dX12_four_25 (by decide) ?_
        refine lv_iadd hx hb dX12_four_26 ?_
        refine lv_topi (fun v18 ev18 => ?_)
        obtain rfl : v18 = 3 := ev18.trans (by decide)
        refine va_put (D := G) (ci := 12) (v := .int 3) (ty := tyX12 6) (C := RX12) (T := TX12) (N := 38) hx hb hts (mm_i inlX12) tyX12 tyX12_ok nmX12 hown hK.1 hP hD hS 0 rfl rfl 6 (by decide) (mm_h hts mm_w178) (fun _ h9 => h9) rfl (tyX12_ok 6 (by decide)) rfl rfl (Nat.le_of_ble_eq_true rfl) dX12_four_27 ?_
        clear hP hD hS
        clear H locs
        intro H locs (hP : va_P G vwCl [(a_0, .inr (12, [.int k_0, .ref a_1, .ref a_2, .ref a_3, .ref a_4, .ref a_5, .int 3, .int i_1, .int i_2, .int i_3, .int i_4, .long j_0, .int i_5, .int i_6, .int i_7, .int i_8, .ref a_6, .ref a_7, .ref a_8, .ref a_9, .ref a_10, .ref a_11, .ref a_12, .ref a_13, .ref a_14, .ref a_15, .ref a_16, .ref a_17, .ref a_18, .int i_9, .int i_10, .int i_11, .int i_12, .int i_13, .int i_14, .ref a_19, .int i_15, .ref a_20])), (a_5, .inl (cy 0, 600, .inl g17))] H) (hD : va_D A [(a_0, .inr (12, [.int k_0, .ref a_1, .ref a_2, .ref a_3, .ref a_4, .ref a_5, .int 3, .int i_1, .int i_2, .int i_3, .int i_4, .long j_0, .int i_5, .int i_6, .int i_7, .int i_8, .ref a_6, .ref a_7, .ref a_8, .ref a_9, .ref a_10, .ref a_11, .ref a_12, .ref a_13, .ref a_14, .ref a_15, .ref a_16, .ref a_17, .ref a_18, .int i_9, .int i_10, .int i_11, .int i_12, .int i_13, .int i_14, .ref a_19, .int i_15, .ref a_20])), (a_5, .inl (cy 0, 600, .inl g17))]) hS
        refine lv_iinc (v := 0) (lv' := [(2, .int 0), (0, .ref a_0), (1, .int i_0)]) hx hb dX12_four_30 hl (k := 0) rfl (by decide) (by decide) rfl ?_
        clear hl
        clear ls
        intro ls hl
        refine lv_goto (tgt := 3) hx hb dX12_four_33 (by decide) ?_
        refine lv_iload_n hx hb dX12_four_3 rfl (lv_at hl 0 rfl) ?_
        refine lv_if_lt (tgt := 36) hx hb dX12_four_4 (by decide) (fun c19 => ?_) (fun c19 => ?_)
        · have q20 := mm_ltL (h := (-1)) (mm_lt c19) mm_k0 mm_k0 (by decide)
          exact mm_no q20 (by decide)
        · refine lv_aload_n hx hb dX12_four_7 rfl (lv_at hl 1 rfl) ?_
          refine va_get (D := G) (ci := 12) (v := .ref a_5) (C := RX12) (T := TX12) (N := 38) hx hb hts (mm_i inlX12) hown hK.1 hP 0 rfl rfl 5 (by decide) (mm_h hts mm_w146) (fun _ h9 => h9) rfl dX12_four_8 ?_
          refine lv_aload_n hx hb dX12_four_11 rfl (lv_at hl 1 rfl) ?_
          refine va_get (D := G) (ci := 12) (v := .int 3) (C := RX12) (T := TX12) (N := 38) hx hb hts (mm_i inlX12) hown hK.1 hP 0 rfl rfl 6 (by decide) (mm_h hts mm_w178) (fun _ h9 => h9) rfl dX12_four_12 ?_
          refine lv_iload_n hx hb dX12_four_15 rfl (lv_at hl 2 rfl) ?_
          refine lv_iload_n hx hb dX12_four_16 rfl (lv_at hl 0 rfl) ?_
          refine lv_ishr hx hb dX12_four_17 ?_
          refine lv_topi (fun v21 ev21 => ?_)
          obtain ⟨v22, ev22⟩ : ∃ y : Int32, y = v21.toInt8.toInt32 := ⟨_, rfl⟩
          refine lv_i2b hx hb dX12_four_18 ev22.symm ?_
          have rv22 : mm_rg v22 (-128) 127 := mm_i2b ev22
          refine va_bast hx hb hK.1 hP hD hS 1 0 rfl rfl (mm_in mm_k3 (by decide)) dX12_four_19 ?_
          clear hP hD hS
          clear H locs
          obtain ⟨g23, eg23⟩ : ∃ z : Nat → Int32, z = upd g17 (3 : Int32).toNatClampNeg (vp_nar .byte v22) := ⟨_, rfl⟩
          rw [← eg23]
          intro H locs (hP : va_P G vwCl [(a_0, .inr (12, [.int k_0, .ref a_1, .ref a_2, .ref a_3, .ref a_4, .ref a_5, .int 3, .int i_1, .int i_2, .int i_3, .int i_4, .long j_0, .int i_5, .int i_6, .int i_7, .int i_8, .ref a_6, .ref a_7, .ref a_8, .ref a_9, .ref a_10, .ref a_11, .ref a_12, .ref a_13, .ref a_14, .ref a_15, .ref a_16, .ref a_17, .ref a_18, .int i_9, .int i_10, .int i_11, .int i_12, .int i_13, .int i_14, .ref a_19, .int i_15, .ref a_20])), (a_5, .inl (cy 0, 600, .inl g23))] H) (hD : va_D A [(a_0, .inr (12, [.int k_0, .ref a_1, .ref a_2, .ref a_3, .ref a_4, .ref a_5, .int 3, .int i_1, .int i_2, .int i_3, .int i_4, .long j_0, .int i_5, .int i_6, .int i_7, .int i_8, .ref a_6, .ref a_7, .ref a_8, .ref a_9, .ref a_10, .ref a_11, .ref a_12, .ref a_13, .ref a_14, .ref a_15, .ref a_16, .ref a_17, .ref a_18, .int i_9, .int i_10, .int i_11, .int i_12, .int i_13, .int i_14, .ref a_19, .int i_15, .ref a_20])), (a_5, .inl (cy 0, 600, .inl g23))]) hS
          have rg23 : mm_ar g23 (-128) 127 := by rw [eg23]; exact mm_ar_upd (mm_ar_wk rg17 (by decide)) (mm_nb _) _
          refine lv_aload_n hx hb dX12_four_20 rfl (lv_at hl 1 rfl) ?_
          refine lv_dup hx hb dX12_four_21 rfl ?_
          refine va_get (D := G) (ci := 12) (v := .int 3) (C := RX12) (T := TX12) (N := 38) hx hb hts (mm_i inlX12) hown hK.1 hP 0 rfl rfl 6 (by decide) (mm_h hts mm_w178) (fun _ h9 => h9) rfl dX12_four_22 ?_
          refine lv_iconst (v := 1) hx hb dX12_four_25 (by decide) ?_
          refine lv_iadd hx hb dX12_four_26 ?_
          refine lv_topi (fun v24 ev24 => ?_)
          obtain rfl : v24 = 4 := ev24.trans (by decide)
          refine va_put (D := G) (ci := 12) (v := .int 4) (ty := tyX12 6) (C := RX12) (T := TX12) (N := 38) hx hb hts (mm_i inlX12) tyX12 tyX12_ok nmX12 hown hK.1 hP hD hS 0 rfl rfl 6 (by decide) (mm_h hts mm_w178) (fun _ h9 => h9) rfl (tyX12_ok 6 (by decide)) rfl rfl (Nat.le_of_ble_eq_true rfl) dX12_four_27 ?_
          clear hP hD hS
          clear H locs
          intro H locs (hP : va_P G vwCl [(a_0, .inr (12, [.int k_0, .ref a_1, .ref a_2, .ref a_3, .ref a_4, .ref a_5, .int 4, .int i_1, .int i_2, .int i_3, .int i_4, .long j_0, .int i_5, .int i_6, .int i_7, .int i_8, .ref a_6, .ref a_7, .ref a_8, .ref a_9, .ref a_10, .ref a_11, .ref a_12, .ref a_13, .ref a_14, .ref a_15, .ref a_16, .ref a_17, .ref a_18, .int i_9, .int i_10, .int i_11, .int i_12, .int i_13, .int i_14, .ref a_19, .int i_15, .ref a_20])), (a_5, .inl (cy 0, 600, .inl g23))] H) (hD : va_D A [(a_0, .inr (12, [.int k_0, .ref a_1, .ref a_2, .ref a_3, .ref a_4, .ref a_5, .int 4, .int i_1, .int i_2, .int i_3, .int i_4, .long j_0, .int i_5, .int i_6, .int i_7, .int i_8, .ref a_6, .ref a_7, .ref a_8, .ref a_9, .ref a_10, .ref a_11, .ref a_12, .ref a_13, .ref a_14, .ref a_15, .ref a_16, .ref a_17, .ref a_18, .int i_9, .int i_10, .int i_11, .int i_12, .int i_13, .int i_14, .ref a_19, .int i_15, .ref a_20])), (a_5, .inl (cy 0, 600, .inl g23))]) hS
          refine lv_iinc (v := (-8)) (lv' := [(2, .int (-8)), (0, .ref a_0), (1, .int i_0)]) hx hb dX12_four_30 hl (k := 0) rfl (by decide) (by decide) rfl ?_
          clear hl
          clear ls
          intro ls hl
          refine lv_goto (tgt := 3) hx hb dX12_four_33 (by decide) ?_
          refine lv_iload_n hx hb dX12_four_3 rfl (lv_at hl 0 rfl) ?_
          refine lv_if_lt (tgt := 36) hx hb dX12_four_4 (by decide) (fun c25 => ?_) (fun c25 => ?_)
          · subst hAe
            rw [hQ]
            exact W.vret hx hb hr (fun t ht hW => ⟨⟨g23, rfl, rg23, by rw [ht]; exact hP, hK.warm hW, hD⟩, hS.F ht⟩) hS.2.2 dX12_four_36
          · have q26 := mm_leL (mm_nlt c25) mm_k0 mm_km8
            exact mm_no q26 (by decide)

set_option maxHeartbeats 4000000 in
set_option maxRecDepth 100000 in
theorem K27_X12_four (l : Launch) (G : va_G) (cy : Nat → ClassId) (sz : Nat) (a_0 : Nat) (i_0 : Int32) (k_0 : Int32) (a_1 : Nat) (a_2 : Nat) (a_3 : Nat) (a_4 : Nat) (a_5 : Nat) (i_1 : Int32) (i_2 : Int32) (i_3 : Int32) (i_4 : Int32) (j_0 : Int64) (i_5 : Int32) (i_6 : Int32) (i_7 : Int32) (i_8 : Int32) (a_6 : Nat) (a_7 : Nat) (a_8 : Nat) (a_9 : Nat) (a_10 : Nat) (a_11 : Nat) (a_12 : Nat) (a_13 : Nat) (a_14 : Nat) (a_15 : Nat) (a_16 : Nat) (a_17 : Nat) (a_18 : Nat) (i_9 : Int32) (i_10 : Int32) (i_11 : Int32) (i_12 : Int32) (i_13 : Int32) (i_14 : Int32) (a_19 : Nat) (i_15 : Int32) (a_20 : Nat) (f_0 : Nat → Int32) (h0 : mm_ar f_0 (-128) 127)  : mm_CV l yX12_four (mm_ws yX12_four cX12_four 3 (none)) ({ frames := 0, cells := 0, slots := 0, locals := 0 } : Room) G cy sz [(a_0, .inr (12, [.int k_0, .ref a_1, .ref a_2, .ref a_3, .ref a_4, .ref a_5, .int 4, .int i_1, .int i_2, .int i_3, .int i_4, .long j_0, .int i_5, .int i_6, .int i_7, .int i_8, .ref a_6, .ref a_7, .ref a_8, .ref a_9, .ref a_10, .ref a_11, .ref a_12, .ref a_13, .ref a_14, .ref a_15, .ref a_16, .ref a_17, .ref a_18, .int i_9, .int i_10, .int i_11, .int i_12, .int i_13, .int i_14, .ref a_19, .int i_15, .ref a_20])), (a_5, .inl (cy 0, 600, .inl f_0))] [.ref a_0, .int i_0] (fun u : (Nat → Int32) => [(a_0, .inr (12, [.int k_0, .ref a_1, .ref a_2, .ref a_3, .ref a_4, .ref a_5, .int 8, .int i_1, .int i_2, .int i_3, .int i_4, .long j_0, .int i_5, .int i_6, .int i_7, .int i_8, .ref a_6, .ref a_7, .ref a_8, .ref a_9, .ref a_10, .ref a_11, .ref a_12, .ref a_13, .ref a_14, .ref a_15, .ref a_16, .ref a_17, .ref a_18, .int i_9, .int i_10, .int i_11, .int i_12, .int i_13, .int i_14, .ref a_19, .int i_15, .ref a_20])), (a_5, .inl (cy 0, 600, .inl u))]) (fun u : (Nat → Int32) => mm_ar u (-128) 127) 0 0 := by
  refine mm_begin (lv := [(0, .ref a_0), (1, .int i_0)]) (by decide) (Nat.le_of_ble_eq_true rfl) rfl ?_
  intro p e s m below meth c A ls R args Q H locs hRe hQ hAe hx hb hr hlocks hml hown hnm hts hsz hA hS hP hK hD hl
  have hRf : R.frames = 0 := by rw [hRe]
  have hRl : R.locals = 0 := by rw [hRe]
  have hRc : R.cells = 0 := by rw [hRe]
  have hRs : R.slots = 0 := by rw [hRe]
  refine lv_bipush (v := 24) hx hb dX12_four_0 (by decide) ?_
  refine lv_istore_n (lv' := [(2, .int 24), (0, .ref a_0), (1, .int i_0)]) hx hb dX12_four_2 rfl hl (by decide) rfl ?_
  clear hl
  clear ls
  intro ls hl
  refine lv_iload_n hx hb dX12_four_3 rfl (lv_at hl 0 rfl) ?_
  refine lv_if_lt (tgt := 36) hx hb dX12_four_4 (by decide) (fun c1 => ?_) (fun c1 => ?_)
  · have q2 := mm_ltL (h := (-1)) (mm_lt c1) mm_k24 mm_k0 (by decide)
    exact mm_no q2 (by decide)
  · refine lv_aload_n hx hb dX12_four_7 rfl (lv_at hl 1 rfl) ?_
    refine va_get (D := G) (ci := 12) (v := .ref a_5) (C := RX12) (T := TX12) (N := 38) hx hb hts (mm_i inlX12) hown hK.1 hP 0 rfl rfl 5 (by decide) (mm_h hts mm_w146) (fun _ h9 => h9) rfl dX12_four_8 ?_
    refine lv_aload_n hx hb dX12_four_11 rfl (lv_at hl 1 rfl) ?_
    refine va_get (D := G) (ci := 12) (v := .int 4) (C := RX12) (T := TX12) (N := 38) hx hb hts (mm_i inlX12) hown hK.1 hP 0 rfl rfl 6 (by decide) (mm_h hts mm_w178) (fun _ h9 => h9) rfl dX12_four_12 ?_
    refine lv_iload_n hx hb dX12_four_15 rfl (lv_at hl 2 rfl) ?_
    refine lv_iload_n hx hb dX12_four_16 rfl (lv_at hl 0 rfl) ?_
    refine lv_ishr hx hb dX12_four_17 ?_
    refine lv_topi (fun v3 ev3 => ?_)
    obtain ⟨v4, ev4⟩ : ∃ y : Int32, y = v3.toInt8.toInt32 := ⟨_, rfl⟩
    refine lv_i2b hx hb dX12_four_18 ev4.symm ?_
    have rv4 : mm_rg v4 (-128) 127 := mm_i2b ev4
    refine va_bast hx hb hK.1 hP hD hS 1 0 rfl rfl (mm_in mm_k4 (by decide)) dX12_four_19 ?_
    clear hP hD hS
    clear H locs
    obtain ⟨g5, eg5⟩ : ∃ z : Nat → Int32, z = upd f_0 (4 : Int32).toNatClampNeg (vp_nar .byte v4) := ⟨_, rfl⟩
    rw [← eg5]
    intro H locs (hP : va_P G vwCl [(a_0, .inr (12, [.int k_0, .ref a_1, .ref a_2, .ref a_3, .ref a_4, .ref a_5, .int 4, .int i_1, .int i_2, .int i_3, .int i_4, .long j_0, .int i_5, .int i_6, .int i_7, .int i_8, .ref a_6, .ref a_7, .ref a_8, .ref a_9, .ref a_10, .ref a_11, .ref a_12, .ref a_13, .ref a_14, .ref a_15, .ref a_16, .ref a_17, .ref a_18, .int i_9, .int i_10, .int i_11, .int i_12, .int i_13, .int i_14, .ref a_19, .int i_15, .ref a_20])), (a_5, .inl (cy 0, 600, .inl g5))] H) (hD : va_D A [(a_0, .inr (12, [.int k_0, .ref a_1, .ref a_2, .ref a_3, .ref a_4, .ref a_5, .int 4, .int i_1, .int i_2, .int i_3, .int i_4, .long j_0, .int i_5, .int i_6, .int i_7, .int i_8, .ref a_6, .ref a_7, .ref a_8, .ref a_9, .ref a_10, .ref a_11, .ref a_12, .ref a_13, .ref a_14, .ref a_15, .ref a_16, .ref a_17, .ref a_18, .int i_9, .int i_10, .int i_11, .int i_12, .int i_13, .int i_14, .ref a_19, .int i_15, .ref a_20])), (a_5, .inl (cy 0, 600, .inl g5))]) hS
    have rg5 : mm_ar g5 (-128) 127 := by rw [eg5]; exact mm_ar_upd (mm_ar_wk h0 (by decide)) (mm_nb _) _
    refine lv_aload_n hx hb dX12_four_20 rfl (lv_at hl 1 rfl) ?_
    refine lv_dup hx hb dX12_four_21 rfl ?_
    refine va_get (D := G) (ci := 12) (v := .int 4) (C := RX12) (T := TX12) (N := 38) hx hb hts (mm_i inlX12) hown hK.1 hP 0 rfl rfl 6 (by decide) (mm_h hts mm_w178) (fun _ h9 => h9) rfl dX12_four_22 ?_
    refine lv_iconst (v := 1) hx hb dX12_four_25 (by decide) ?_
    refine lv_iadd hx hb dX12_four_26 ?_
    refine lv_topi (fun v6 ev6 => ?_)
    obtain rfl : v6 = 5 := ev6.trans (by decide)
    refine va_put (D := G) (ci := 12) (v := .int 5) (ty := tyX12 6) (C := RX12) (T := TX12) (N := 38) hx hb hts (mm_i inlX12) tyX12 tyX12_ok nmX12 hown hK.1 hP hD hS 0 rfl rfl 6 (by decide) (mm_h hts mm_w178) (fun _ h9 => h9) rfl (tyX12_ok 6 (by decide)) rfl rfl (Nat.le_of_ble_eq_true rfl) dX12_four_27 ?_
    clear hP hD hS
    clear H locs
    intro H locs (hP : va_P G vwCl [(a_0, .inr (12, [.int k_0, .ref a_1, .ref a_2, .ref a_3, .ref a_4, .ref a_5, .int 5, .int i_1, .int i_2, .int i_3, .int i_4, .long j_0, .int i_5, .int i_6, .int i_7, .int i_8, .ref a_6, .ref a_7, .ref a_8, .ref a_9, .ref a_10, .ref a_11, .ref a_12, .ref a_13, .ref a_14, .ref a_15, .ref a_16, .ref a_17, .ref a_18, .int i_9, .int i_10, .int i_11, .int i_12, .int i_13, .int i_14, .ref a_19, .int i_15, .ref a_20])), (a_5, .inl (cy 0, 600, .inl g5))] H) (hD : va_D A [(a_0, .inr (12, [.int k_0, .ref a_1, .ref a_2, .ref a_3, .ref a_4, .ref a_5, .int 5, .int i_1, .int i_2, .int i_3, .int i_4, .long j_0, .int i_5, .int i_6, .int i_7, .int i_8, .ref a_6, .ref a_7, .ref a_8, .ref a_9, .ref a_10, .ref a_11, .ref a_12, .ref a_13, .ref a_14, .ref a_15, .ref a_16, .ref a_17, .ref a_18, .int i_9, .int i_10, .int i_11, .int i_12, .int i_13, .int i_14, .ref a_19, .int i_15, .ref a_20])), (a_5, .inl (cy 0, 600, .inl g5))]) hS
    refine lv_iinc (v := 16) (lv' := [(2, .int 16), (0, .ref a_0), (1, .int i_0)]) hx hb dX12_four_30 hl (k := 0) rfl (by decide) (by decide) rfl ?_
    clear hl
    clear ls
    intro ls hl
    refine lv_goto (tgt := 3) hx hb dX12_four_33 (by decide) ?_
    refine lv_iload_n hx hb dX12_four_3 rfl (lv_at hl 0 rfl) ?_
    refine lv_if_lt (tgt := 36) hx hb dX12_four_4 (by decide) (fun c7 => ?_) (fun c7 => ?_)
    · have q8 := mm_ltL (h := (-1)) (mm_lt c7) mm_k16 mm_k0 (by decide)
      exact mm_no q8 (by decide)
    · refine lv_aload_n hx hb dX12_four_7 rfl (lv_at hl 1 rfl) ?_
      refine va_get (D := G) (ci := 12) (v := .ref a_5) (C := RX12) (T := TX12) (N := 38) hx hb hts (mm_i inlX12) hown hK.1 hP 0 rfl rfl 5 (by decide) (mm_h hts mm_w146) (fun _ h9 => h9) rfl dX12_four_8 ?_
      refine lv_aload_n hx hb dX12_four_11 rfl (lv_at hl 1 rfl) ?_
      refine va_get (D := G) (ci := 12) (v := .int 5) (C := RX12) (T := TX12) (N := 38) hx hb hts (mm_i inlX12) hown hK.1 hP 0 rfl rfl 6 (by decide) (mm_h hts mm_w178) (fun _ h9 => h9) rfl dX12_four_12 ?_
      refine lv_iload_n hx hb dX12_four_15 rfl (lv_at hl 2 rfl) ?_
      refine lv_iload_n hx hb dX12_four_16 rfl (lv_at hl 0 rfl) ?_
      refine lv_ishr hx hb dX12_four_17 ?_
      refine lv_topi (fun v9 ev9 => ?_)
      obtain ⟨v10, ev10⟩ : ∃ y : Int32, y = v9.toInt8.toInt32 := ⟨_, rfl⟩
      refine lv_i2b hx hb dX12_four_18 ev10.symm ?_
      have rv10 : mm_rg v10 (-128) 127 := mm_i2b ev10
      refine va_bast hx hb hK.1 hP hD hS 1 0 rfl rfl (mm_in mm_k5 (by decide)) dX12_four_19 ?_
      clear hP hD hS
      clear H locs
      obtain ⟨g11, eg11⟩ : ∃ z : Nat → Int32, z = upd g5 (5 : Int32).toNatClampNeg (vp_nar .byte v10) := ⟨_, rfl⟩
      rw [← eg11]
      intro H locs (hP : va_P G vwCl [(a_0, .inr (12, [.int k_0, .ref a_1, .ref a_2, .ref a_3, .ref a_4, .ref a_5, .int 5, .int i_1, .int i_2, .int i_3, .int i_4, .long j_0, .int i_5, .int i_6, .int i_7, .int i_8, .ref a_6, .ref a_7, .ref a_8, .ref a_9, .ref a_10, .ref a_11, .ref a_12, .ref a_13, .ref a_14, .ref a_15, .ref a_16, .ref a_17, .ref a_18, .int i_9, .int i_10, .int i_11, .int i_12, .int i_13, .int i_14, .ref a_19, .int i_15, .ref a_20])), (a_5, .inl (cy 0, 600, .inl g11))] H) (hD : va_D A [(a_0, .inr (12, [.int k_0, .ref a_1, .ref a_2, .ref a_3, .ref a_4, .ref a_5, .int 5, .int i_1, .int i_2, .int i_3, .int i_4, .long j_0, .int i_5, .int i_6, .int i_7, .int i_8, .ref a_6, .ref a_7, .ref a_8, .ref a_9, .ref a_10, .ref a_11, .ref a_12, .ref a_13, .ref a_14, .ref a_15, .ref a_16, .ref a_17, .ref a_18, .int i_9, .int i_10, .int i_11, .int i_12, .int i_13, .int i_14, .ref a_19, .int i_15, .ref a_20])), (a_5, .inl (cy 0, 600, .inl g11))]) hS
      have rg11 : mm_ar g11 (-128) 127 := by rw [eg11]; exact mm_ar_upd (mm_ar_wk rg5 (by decide)) (mm_nb _) _
      refine lv_aload_n hx hb dX12_four_20 rfl (lv_at hl 1 rfl) ?_
      refine lv_dup hx hb dX12_four_21 rfl ?_
      refine va_get (D := G) (ci := 12) (v := .int 5) (C := RX12) (T := TX12) (N := 38) hx hb hts (mm_i inlX12) hown hK.1 hP 0 rfl rfl 6 (by decide) (mm_h hts mm_w178) (fun _ h9 => h9) rfl dX12_four_22 ?_
      refine lv_iconst (v := 1) hx hb dX12_four_25 (by decide) ?_
      refine lv_iadd hx hb dX12_four_26 ?_
      refine lv_topi (fun v12 ev12 => ?_)
      obtain rfl : v12 = 6 := ev12.trans (by decide)
      refine va_put (D := G) (ci := 12) (v := .int 6) (ty := tyX12 6) (C := RX12) (T := TX12) (N := 38) hx hb hts (mm_i inlX12) tyX12 tyX12_ok nmX12 hown hK.1 hP hD hS 0 rfl rfl 6 (by decide) (mm_h hts mm_w178) (fun _ h9 => h9) rfl (tyX12_ok 6 (by decide)) rfl rfl (Nat.le_of_ble_eq_true rfl) dX12_four_27 ?_
      clear hP hD hS
      clear H locs
      intro H locs (hP : va_P G vwCl [(a_0, .inr (12, [.int k_0, .ref a_1, .ref a_2, .ref a_3, .ref a_4, .ref a_5, .int 6, .int i_1, .int i_2, .int i_3, .int i_4, .long j_0, .int i_5, .int i_6, .int i_7, .int i_8, .ref a_6, .ref a_7, .ref a_8, .ref a_9, .ref a_10, .ref a_11, .ref a_12, .ref a_13, .ref a_14, .ref a_15, .ref a_16, .ref a_17, .ref a_18, .int i_9, .int i_10, .int i_11, .int i_12, .int i_13, .int i_14, .ref a_19, .int i_15, .ref a_20])), (a_5, .inl (cy 0, 600, .inl g11))] H) (hD : va_D A [(a_0, .inr (12, [.int k_0, .ref a_1, .ref a_2, .ref a_3, .ref a_4, .ref a_5, .int 6, .int i_1, .int i_2, .int i_3, .int i_4, .long j_0, .int i_5, .int i_6, .int i_7, .int i_8, .ref a_6, .ref a_7, .ref a_8, .ref a_9, .ref a_10, .ref a_11, .ref a_12, .ref a_13, .ref a_14, .ref a_15, .ref a_16, .ref a_17, .ref a_18, .int i_9, .int i_10, .int i_11, .int i_12, .int i_13, .int i_14, .ref a_19, .int i_15, .ref a_20])), (a_5, .inl (cy 0, 600, .inl g11))]) hS
      refine lv_iinc (v := 8) (lv' := [(2, .int 8), (0, .ref a_0), (1, .int i_0)]) hx hb dX12_four_30 hl (k := 0) rfl (by decide) (by decide) rfl ?_
      clear hl
      clear ls
      intro ls hl
      refine lv_goto (tgt := 3) hx hb dX12_four_33 (by decide) ?_
      refine lv_iload_n hx hb dX12_four_3 rfl (lv_at hl 0 rfl) ?_
      refine lv_if_lt (tgt := 36) hx hb dX12_four_4 (by decide) (fun c13 => ?_) (fun c13 => ?_)
      · have q14 := mm_ltL (h := (-1)) (mm_lt c13) mm_k8 mm_k0 (by decide)
        exact mm_no q14 (by decide)
      · refine lv_aload_n hx hb dX12_four_7 rfl (lv_at hl 1 rfl) ?_
        refine va_get (D := G) (ci := 12) (v := .ref a_5) (C := RX12) (T := TX12) (N := 38) hx hb hts (mm_i inlX12) hown hK.1 hP 0 rfl rfl 5 (by decide) (mm_h hts mm_w146) (fun _ h9 => h9) rfl dX12_four_8 ?_
        refine lv_aload_n hx hb dX12_four_11 rfl (lv_at hl 1 rfl) ?_
        refine va_get (D := G) (ci := 12) (v := .int 6) (C := RX12) (T := TX12) (N := 38) hx hb hts (mm_i inlX12) hown hK.1 hP 0 rfl rfl 6 (by decide) (mm_h hts mm_w178) (fun _ h9 => h9) rfl dX12_four_12 ?_
        refine lv_iload_n hx hb dX12_four_15 rfl (lv_at hl 2 rfl) ?_
        refine lv_iload_n hx hb dX12_four_16 rfl (lv_at hl 0 rfl) ?_
        refine lv_ishr hx hb dX12_four_17 ?_
        refine lv_topi (fun v15 ev15 => ?_)
        obtain ⟨v16, ev16⟩ : ∃ y : Int32, y = v15.toInt8.toInt32 := ⟨_, rfl⟩
        refine lv_i2b hx hb dX12_four_18 ev16.symm ?_
        have rv16 : mm_rg v16 (-128) 127 := mm_i2b ev16
        refine va_bast hx hb hK.1 hP hD hS 1 0 rfl rfl (mm_in mm_k6 (by decide)) dX12_four_19 ?_
        clear hP hD hS
        clear H locs
        obtain ⟨g17, eg17⟩ : ∃ z : Nat → Int32, z = upd g11 (6 : Int32).toNatClampNeg (vp_nar .byte v16) := ⟨_, rfl⟩
        rw [← eg17]
        intro H locs (hP : va_P G vwCl [(a_0, .inr (12, [.int k_0, .ref a_1, .ref a_2, .ref a_3, .ref a_4, .ref a_5, .int 6, .int i_1, .int i_2, .int i_3, .int i_4, .long j_0, .int i_5, .int i_6, .int i_7, .int i_8, .ref a_6, .ref a_7, .ref a_8, .ref a_9, .ref a_10, .ref a_11, .ref a_12, .ref a_13, .ref a_14, .ref a_15, .ref a_16, .ref a_17, .ref a_18, .int i_9, .int i_10, .int i_11, .int i_12, .int i_13, .int i_14, .ref a_19, .int i_15, .ref a_20])), (a_5, .inl (cy 0, 600, .inl g17))] H) (hD : va_D A [(a_0, .inr (12, [.int k_0, .ref a_1, .ref a_2, .ref a_3, .ref a_4, .ref a_5, .int 6, .int i_1, .int i_2, .int i_3, .int i_4, .long j_0, .int i_5, .int i_6, .int i_7, .int i_8, .ref a_6, .ref a_7, .ref a_8, .ref a_9, .ref a_10, .ref a_11, .ref a_12, .ref a_13, .ref a_14, .ref a_15, .ref a_16, .ref a_17, .ref a_18, .int i_9, .int i_10, .int i_11, .int i_12, .int i_13, .int i_14, .ref a_19, .int i_15, .ref a_20])), (a_5, .inl (cy 0, 600, .inl g17))]) hS
        have rg17 : mm_ar g17 (-128) 127 := by rw [eg17]; exact mm_ar_upd (mm_ar_wk rg11 (by decide)) (mm_nb _) _
        refine lv_aload_n hx hb dX12_four_20 rfl (lv_at hl 1 rfl) ?_
        refine lv_dup hx hb dX12_four_21 rfl ?_
        refine va_get (D := G) (ci := 12) (v := .int 6) (C := RX12) (T := TX12) (N := 38) hx hb hts (mm_i inlX12) hown hK.1 hP 0 rfl rfl 6 (by decide) (mm_h hts mm_w178) (fun _ h9 => h9) rfl dX12_four_22 ?_
        refine lv_iconst (v := 1) hx hb dX12_four_25 (by decide) ?_
        refine lv_iadd hx hb dX12_four_26 ?_
        refine lv_topi (fun v18 ev18 => ?_)
        obtain rfl : v18 = 7 := ev18.trans (by decide)
        refine va_put (D := G) (ci := 12) (v := .int 7) (ty := tyX12 6) (C := RX12) (T := TX12) (N := 38) hx hb hts (mm_i inlX12) tyX12 tyX12_ok nmX12 hown hK.1 hP hD hS 0 rfl rfl 6 (by decide) (mm_h hts mm_w178) (fun _ h9 => h9) rfl (tyX12_ok 6 (by decide)) rfl rfl (Nat.le_of_ble_eq_true rfl) dX12_four_27 ?_
        clear hP hD hS
        clear H locs
        intro H locs (hP : va_P G vwCl [(a_0, .inr (12, [.int k_0, .ref a_1, .ref a_2, .ref a_3, .ref a_4, .ref a_5, .int 7, .int i_1, .int i_2, .int i_3, .int i_4, .long j_0, .int i_5, .int i_6, .int i_7, .int i_8, .ref a_6, .ref a_7, .ref a_8, .ref a_9, .ref a_10, .ref a_11, .ref a_12, .ref a_13, .ref a_14, .ref a_15, .ref a_16, .ref a_17, .ref a_18, .int i_9, .int i_10, .int i_11, .int i_12, .int i_13, .int i_14, .ref a_19, .int i_15, .ref a_20])), (a_5, .inl (cy 0, 600, .inl g17))] H) (hD : va_D A [(a_0, .inr (12, [.int k_0, .ref a_1, .ref a_2, .ref a_3, .ref a_4, .ref a_5, .int 7, .int i_1, .int i_2, .int i_3, .int i_4, .long j_0, .int i_5, .int i_6, .int i_7, .int i_8, .ref a_6, .ref a_7, .ref a_8, .ref a_9, .ref a_10, .ref a_11, .ref a_12, .ref a_13, .ref a_14, .ref a_15, .ref a_16, .ref a_17, .ref a_18, .int i_9, .int i_10, .int i_11, .int i_12, .int i_13, .int i_14, .ref a_19, .int i_15, .ref a_20])), (a_5, .inl (cy 0, 600, .inl g17))]) hS
        refine lv_iinc (v := 0) (lv' := [(2, .int 0), (0, .ref a_0), (1, .int i_0)]) hx hb dX12_four_30 hl (k := 0) rfl (by decide) (by decide) rfl ?_
        clear hl
        clear ls
        intro ls hl
        refine lv_goto (tgt := 3) hx hb dX12_four_33 (by decide) ?_
        refine lv_iload_n hx hb dX12_four_3 rfl (lv_at hl 0 rfl) ?_
        refine lv_if_lt (tgt := 36) hx hb dX12_four_4 (by decide) (fun c19 => ?_) (fun c19 => ?_)
        · have q20 := mm_ltL (h := (-1)) (mm_lt c19) mm_k0 mm_k0 (by decide)
          exact mm_no q20 (by decide)
        · refine lv_aload_n hx hb dX12_four_7 rfl (lv_at hl 1 rfl) ?_
          refine va_get (D := G) (ci := 12) (v := .ref a_5) (C := RX12) (T := TX12) (N := 38) hx hb hts (mm_i inlX12) hown hK.1 hP 0 rfl rfl 5 (by decide) (mm_h hts mm_w146) (fun _ h9 => h9) rfl dX12_four_8 ?_
          refine lv_aload_n hx hb dX12_four_11 rfl (lv_at hl 1 rfl) ?_
          refine va_get (D := G) (ci := 12) (v := .int 7) (C := RX12) (T := TX12) (N := 38) hx hb hts (mm_i inlX12) hown hK.1 hP 0 rfl rfl 6 (by decide) (mm_h hts mm_w178) (fun _ h9 => h9) rfl dX12_four_12 ?_
          refine lv_iload_n hx hb dX12_four_15 rfl (lv_at hl 2 rfl) ?_
          refine lv_iload_n hx hb dX12_four_16 rfl (lv_at hl 0 rfl) ?_
          refine lv_ishr hx hb dX12_four_17 ?_
          refine lv_topi (fun v21 ev21 => ?_)
          obtain ⟨v22, ev22⟩ : ∃ y : Int32, y = v21.toInt8.toInt32 := ⟨_, rfl⟩
          refine lv_i2b hx hb dX12_four_18 ev22.symm ?_
          have rv22 : mm_rg v22 (-128) 127 := mm_i2b ev22
          refine va_bast hx hb hK.1 hP hD hS 1 0 rfl rfl (mm_in mm_k7 (by decide)) dX12_four_19 ?_
          clear hP hD hS
          clear H locs
          obtain ⟨g23, eg23⟩ : ∃ z : Nat → Int32, z = upd g17 (7 : Int32).toNatClampNeg (vp_nar .byte v22) := ⟨_, rfl⟩
          rw [← eg23]
          intro H locs (hP : va_P G vwCl [(a_0, .inr (12, [.int k_0, .ref a_1, .ref a_2, .ref a_3, .ref a_4, .ref a_5, .int 7, .int i_1, .int i_2, .int i_3, .int i_4, .long j_0, .int i_5, .int i_6, .int i_7, .int i_8, .ref a_6, .ref a_7, .ref a_8, .ref a_9, .ref a_10, .ref a_11, .ref a_12, .ref a_13, .ref a_14, .ref a_15, .ref a_16, .ref a_17, .ref a_18, .int i_9, .int i_10, .int i_11, .int i_12, .int i_13, .int i_14, .ref a_19, .int i_15, .ref a_20])), (a_5, .inl (cy 0, 600, .inl g23))] H) (hD : va_D A [(a_0, .inr (12, [.int k_0, .ref a_1, .ref a_2, .ref a_3, .ref a_4, .ref a_5, .int 7, .int i_1, .int i_2, .int i_3, .int i_4, .long j_0, .int i_5, .int i_6, .int i_7, .int i_8, .ref a_6, .ref a_7, .ref a_8, .ref a_9, .ref a_10, .ref a_11, .ref a_12, .ref a_13, .ref a_14, .ref a_15, .ref a_16, .ref a_17, .ref a_18, .int i_9, .int i_10, .int i_11, .int i_12, .int i_13, .int i_14, .ref a_19, .int i_15, .ref a_20])), (a_5, .inl (cy 0, 600, .inl g23))]) hS
          have rg23 : mm_ar g23 (-128) 127 := by rw [eg23]; exact mm_ar_upd (mm_ar_wk rg17 (by decide)) (mm_nb _) _
          refine lv_aload_n hx hb dX12_four_20 rfl (lv_at hl 1 rfl) ?_
          refine lv_dup hx hb dX12_four_21 rfl ?_
          refine va_get (D := G) (ci := 12) (v := .int 7) (C := RX12) (T := TX12) (N := 38) hx hb hts (mm_i inlX12) hown hK.1 hP 0 rfl rfl 6 (by decide) (mm_h hts mm_w178) (fun _ h9 => h9) rfl dX12_four_22 ?_
          refine lv_iconst (v := 1) hx hb dX12_four_25 (by decide) ?_
          refine lv_iadd hx hb dX12_four_26 ?_
          refine lv_topi (fun v24 ev24 => ?_)
          obtain rfl : v24 = 8 := ev24.trans (by decide)
          refine va_put (D := G) (ci := 12) (v := .int 8) (ty := tyX12 6) (C := RX12) (T := TX12) (N := 38) hx hb hts (mm_i inlX12) tyX12 tyX12_ok nmX12 hown hK.1 hP hD hS 0 rfl rfl 6 (by decide) (mm_h hts mm_w178) (fun _ h9 => h9) rfl (tyX12_ok 6 (by decide)) rfl rfl (Nat.le_of_ble_eq_true rfl) dX12_four_27 ?_
          clear hP hD hS
          clear H locs
          intro H locs (hP : va_P G vwCl [(a_0, .inr (12, [.int k_0, .ref a_1, .ref a_2, .ref a_3, .ref a_4, .ref a_5, .int 8, .int i_1, .int i_2, .int i_3, .int i_4, .long j_0, .int i_5, .int i_6, .int i_7, .int i_8, .ref a_6, .ref a_7, .ref a_8, .ref a_9, .ref a_10, .ref a_11, .ref a_12, .ref a_13, .ref a_14, .ref a_15, .ref a_16, .ref a_17, .ref a_18, .int i_9, .int i_10, .int i_11, .int i_12, .int i_13, .int i_14, .ref a_19, .int i_15, .ref a_20])), (a_5, .inl (cy 0, 600, .inl g23))] H) (hD : va_D A [(a_0, .inr (12, [.int k_0, .ref a_1, .ref a_2, .ref a_3, .ref a_4, .ref a_5, .int 8, .int i_1, .int i_2, .int i_3, .int i_4, .long j_0, .int i_5, .int i_6, .int i_7, .int i_8, .ref a_6, .ref a_7, .ref a_8, .ref a_9, .ref a_10, .ref a_11, .ref a_12, .ref a_13, .ref a_14, .ref a_15, .ref a_16, .ref a_17, .ref a_18, .int i_9, .int i_10, .int i_11, .int i_12, .int i_13, .int i_14, .ref a_19, .int i_15, .ref a_20])), (a_5, .inl (cy 0, 600, .inl g23))]) hS
          refine lv_iinc (v := (-8)) (lv' := [(2, .int (-8)), (0, .ref a_0), (1, .int i_0)]) hx hb dX12_four_30 hl (k := 0) rfl (by decide) (by decide) rfl ?_
          clear hl
          clear ls
          intro ls hl
          refine lv_goto (tgt := 3) hx hb dX12_four_33 (by decide) ?_
          refine lv_iload_n hx hb dX12_four_3 rfl (lv_at hl 0 rfl) ?_
          refine lv_if_lt (tgt := 36) hx hb dX12_four_4 (by decide) (fun c25 => ?_) (fun c25 => ?_)
          · subst hAe
            rw [hQ]
            exact W.vret hx hb hr (fun t ht hW => ⟨⟨g23, rfl, rg23, by rw [ht]; exact hP, hK.warm hW, hD⟩, hS.F ht⟩) hS.2.2 dX12_four_36
          · have q26 := mm_leL (mm_nlt c25) mm_k0 mm_km8
            exact mm_no q26 (by decide)

set_option maxHeartbeats 4000000 in
set_option maxRecDepth 100000 in
theorem K28_X12_four (l : Launch) (G : va_G) (cy : Nat → ClassId) (sz : Nat) (a_0 : Nat) (i_0 : Int32) (k_0 : Int32) (a_1 : Nat) (a_2 : Nat) (a_3 : Nat) (a_4 : Nat) (a_5 : Nat) (i_1 : Int32) (i_2 : Int32) (i_3 : Int32) (i_4 : Int32) (j_0 : Int64) (i_5 : Int32) (i_6 : Int32) (i_7 : Int32) (i_8 : Int32) (a_6 : Nat) (a_7 : Nat) (a_8 : Nat) (a_9 : Nat) (a_10 : Nat) (a_11 : Nat) (a_12 : Nat) (a_13 : Nat) (a_14 : Nat) (a_15 : Nat) (a_16 : Nat) (a_17 : Nat) (a_18 : Nat) (i_9 : Int32) (i_10 : Int32) (i_11 : Int32) (i_12 : Int32) (i_13 : Int32) (i_14 : Int32) (a_19 : Nat) (i_15 : Int32) (a_20 : Nat) (f_0 : Nat → Int32) (h0 : mm_ar f_0 (-128) 127)  : mm_CV l yX12_four (mm_ws yX12_four cX12_four 3 (none)) ({ frames := 0, cells := 0, slots := 0, locals := 0 } : Room) G cy sz [(a_0, .inr (12, [.int k_0, .ref a_1, .ref a_2, .ref a_3, .ref a_4, .ref a_5, .int 8, .int i_1, .int i_2, .int i_3, .int i_4, .long j_0, .int i_5, .int i_6, .int i_7, .int i_8, .ref a_6, .ref a_7, .ref a_8, .ref a_9, .ref a_10, .ref a_11, .ref a_12, .ref a_13, .ref a_14, .ref a_15, .ref a_16, .ref a_17, .ref a_18, .int i_9, .int i_10, .int i_11, .int i_12, .int i_13, .int i_14, .ref a_19, .int i_15, .ref a_20])), (a_5, .inl (cy 0, 600, .inl f_0))] [.ref a_0, .int i_0] (fun u : (Nat → Int32) => [(a_0, .inr (12, [.int k_0, .ref a_1, .ref a_2, .ref a_3, .ref a_4, .ref a_5, .int 12, .int i_1, .int i_2, .int i_3, .int i_4, .long j_0, .int i_5, .int i_6, .int i_7, .int i_8, .ref a_6, .ref a_7, .ref a_8, .ref a_9, .ref a_10, .ref a_11, .ref a_12, .ref a_13, .ref a_14, .ref a_15, .ref a_16, .ref a_17, .ref a_18, .int i_9, .int i_10, .int i_11, .int i_12, .int i_13, .int i_14, .ref a_19, .int i_15, .ref a_20])), (a_5, .inl (cy 0, 600, .inl u))]) (fun u : (Nat → Int32) => mm_ar u (-128) 127) 0 0 := by
  refine mm_begin (lv := [(0, .ref a_0), (1, .int i_0)]) (by decide) (Nat.le_of_ble_eq_true rfl) rfl ?_
  intro p e s m below meth c A ls R args Q H locs hRe hQ hAe hx hb hr hlocks hml hown hnm hts hsz hA hS hP hK hD hl
  have hRf : R.frames = 0 := by rw [hRe]
  have hRl : R.locals = 0 := by rw [hRe]
  have hRc : R.cells = 0 := by rw [hRe]
  have hRs : R.slots = 0 := by rw [hRe]
  refine lv_bipush (v := 24) hx hb dX12_four_0 (by decide) ?_
  refine lv_istore_n (lv' := [(2, .int 24), (0, .ref a_0), (1, .int i_0)]) hx hb dX12_four_2 rfl hl (by decide) rfl ?_
  clear hl
  clear ls
  intro ls hl
  refine lv_iload_n hx hb dX12_four_3 rfl (lv_at hl 0 rfl) ?_
  refine lv_if_lt (tgt := 36) hx hb dX12_four_4 (by decide) (fun c1 => ?_) (fun c1 => ?_)
  · have q2 := mm_ltL (h := (-1)) (mm_lt c1) mm_k24 mm_k0 (by decide)
    exact mm_no q2 (by decide)
  · refine lv_aload_n hx hb dX12_four_7 rfl (lv_at hl 1 rfl) ?_
    refine va_get (D := G) (ci := 12) (v := .ref a_5) (C := RX12) (T := TX12) (N := 38) hx hb hts (mm_i inlX12) hown hK.1 hP 0 rfl rfl 5 (by decide) (mm_h hts mm_w146) (fun _ h9 => h9) rfl dX12_four_8 ?_
    refine lv_aload_n hx hb dX12_four_11 rfl (lv_at hl 1 rfl) ?_
    refine va_get (D := G) (ci := 12) (v := .int 8) (C := RX12) (T := TX12) (N := 38) hx hb hts (mm_i inlX12) hown hK.1 hP 0 rfl rfl 6 (by decide) (mm_h hts mm_w178) (fun _ h9 => h9) rfl dX12_four_12 ?_
    refine lv_iload_n hx hb dX12_four_15 rfl (lv_at hl 2 rfl) ?_
    refine lv_iload_n hx hb dX12_four_16 rfl (lv_at hl 0 rfl) ?_
    refine lv_ishr hx hb dX12_four_17 ?_
    refine lv_topi (fun v3 ev3 => ?_)
    obtain ⟨v4, ev4⟩ : ∃ y : Int32, y = v3.toInt8.toInt32 := ⟨_, rfl⟩
    refine lv_i2b hx hb dX12_four_18 ev4.symm ?_
    have rv4 : mm_rg v4 (-128) 127 := mm_i2b ev4
    refine va_bast hx hb hK.1 hP hD hS 1 0 rfl rfl (mm_in mm_k8 (by decide)) dX12_four_19 ?_
    clear hP hD hS
    clear H locs
    obtain ⟨g5, eg5⟩ : ∃ z : Nat → Int32, z = upd f_0 (8 : Int32).toNatClampNeg (vp_nar .byte v4) := ⟨_, rfl⟩
    rw [← eg5]
    intro H locs (hP : va_P G vwCl [(a_0, .inr (12, [.int k_0, .ref a_1, .ref a_2, .ref a_3, .ref a_4, .ref a_5, .int 8, .int i_1, .int i_2, .int i_3, .int i_4, .long j_0, .int i_5, .int i_6, .int i_7, .int i_8, .ref a_6, .ref a_7, .ref a_8, .ref a_9, .ref a_10, .ref a_11, .ref a_12, .ref a_13, .ref a_14, .ref a_15, .ref a_16, .ref a_17, .ref a_18, .int i_9, .int i_10, .int i_11, .int i_12, .int i_13, .int i_14, .ref a_19, .int i_15, .ref a_20])), (a_5, .inl (cy 0, 600, .inl g5))] H) (hD : va_D A [(a_0, .inr (12, [.int k_0, .ref a_1, .ref a_2, .ref a_3, .ref a_4, .ref a_5, .int 8, .int i_1, .int i_2, .int i_3, .int i_4, .long j_0, .int i_5, .int i_6, .int i_7, .int i_8, .ref a_6, .ref a_7, .ref a_8, .ref a_9, .ref a_10, .ref a_11, .ref a_12, .ref a_13, .ref a_14, .ref a_15, .ref a_16, .ref a_17, .ref a_18, .int i_9, .int i_10, .int i_11, .int i_12, .int i_13, .int i_14, .ref a_19, .int i_15, .ref a_20])), (a_5, .inl (cy 0, 600, .inl g5))]) hS
    have rg5 : mm_ar g5 (-128) 127 := by rw [eg5]; exact mm_ar_upd (mm_ar_wk h0 (by decide)) (mm_nb _) _
    refine lv_aload_n hx hb dX12_four_20 rfl (lv_at hl 1 rfl) ?_
    refine lv_dup hx hb dX12_four_21 rfl ?_
    refine va_get (D := G) (ci := 12) (v := .int 8) (C := RX12) (T := TX12) (N := 38) hx hb hts (mm_i inlX12) hown hK.1 hP 0 rfl rfl 6 (by decide) (mm_h hts mm_w178) (fun _ h9 => h9) rfl dX12_four_22 ?_
    refine lv_iconst (v := 1) hx hb dX12_four_25 (by decide) ?_
    refine lv_iadd hx hb dX12_four_26 ?_
    refine lv_topi (fun v6 ev6 => ?_)
    obtain rfl : v6 = 9 := ev6.trans (by decide)
    refine va_put (D := G) (ci := 12) (v := .int 9) (ty := tyX12 6) (C := RX12) (T := TX12) (N := 38) hx hb hts (mm_i inlX12) tyX12 tyX12_ok nmX12 hown hK.1 hP hD hS 0 rfl rfl 6 (by decide) (mm_h hts mm_w178) (fun _ h9 => h9) rfl (tyX12_ok 6 (by decide)) rfl rfl (Nat.le_of_ble_eq_true rfl) dX12_four_27 ?_
    clear hP hD hS
    clear H locs
    intro H locs (hP : va_P G vwCl [(a_0, .inr (12, [.int k_0, .ref a_1, .ref a_2, .ref a_3, .ref a_4, .ref a_5, .int 9, .int i_1, .int i_2, .int i_3, .int i_4, .long j_0, .int i_5, .int i_6, .int i_7, .int i_8, .ref a_6, .ref a_7, .ref a_8, .ref a_9, .ref a_10, .ref a_11, .ref a_12, .ref a_13, .ref a_14, .ref a_15, .ref a_16, .ref a_17, .ref a_18, .int i_9, .int i_10, .int i_11, .int i_12, .int i_13, .int i_14, .ref a_19, .int i_15, .ref a_20])), (a_5, .inl (cy 0, 600, .inl g5))] H) (hD : va_D A [(a_0, .inr (12, [.int k_0, .ref a_1, .ref a_2, .ref a_3, .ref a_4, .ref a_5, .int 9, .int i_1, .int i_2, .int i_3, .int i_4, .long j_0, .int i_5, .int i_6, .int i_7, .int i_8, .ref a_6, .ref a_7, .ref a_8, .ref a_9, .ref a_10, .ref a_11, .ref a_12, .ref a_13, .ref a_14, .ref a_15, .ref a_16, .ref a_17, .ref a_18, .int i_9, .int i_10, .int i_11, .int i_12, .int i_13, .int i_14, .ref a_19, .int i_15, .ref a_20])), (a_5, .inl (cy 0, 600, .inl g5))]) hS
    refine lv_iinc (v := 16) (lv' := [(2, .int 16), (0, .ref a_0), (1, .int i_0)]) hx hb dX12_four_30 hl (k := 0) rfl (by decide) (by decide) rfl ?_
    clear hl
    clear ls
    intro ls hl
    refine lv_goto (tgt := 3) hx hb dX12_four_33 (by decide) ?_
    refine lv_iload_n hx hb dX12_four_3 rfl (lv_at hl 0 rfl) ?_
    refine lv_if_lt (tgt := 36) hx hb dX12_four_4 (by decide) (fun c7 => ?_) (fun c7 => ?_)
    · have q8 := mm_ltL (h := (-1)) (mm_lt c7) mm_k16 mm_k0 (by decide)
      exact mm_no q8 (by decide)
    · refine lv_aload_n hx hb dX12_four_7 rfl (lv_at hl 1 rfl) ?_
      refine va_get (D := G) (ci := 12) (v := .ref a_5) (C := RX12) (T := TX12) (N := 38) hx hb hts (mm_i inlX12) hown hK.1 hP 0 rfl rfl 5 (by decide) (mm_h hts mm_w146) (fun _ h9 => h9) rfl dX12_four_8 ?_
      refine lv_aload_n hx hb dX12_four_11 rfl (lv_at hl 1 rfl) ?_
      refine va_get (D := G) (ci := 12) (v := .int 9) (C := RX12) (T := TX12) (N := 38) hx hb hts (mm_i inlX12) hown hK.1 hP 0 rfl rfl 6 (by decide) (mm_h hts mm_w178) (fun _ h9 => h9) rfl dX12_four_12 ?_
      refine lv_iload_n hx hb dX12_four_15 rfl (lv_at hl 2 rfl) ?_
      refine lv_iload_n hx hb dX12_four_16 rfl (lv_at hl 0 rfl) ?_
      refine lv_ishr hx hb dX12_four_17 ?_
      refine lv_topi (fun v9 ev9 => ?_)
      obtain ⟨v10, ev10⟩ : ∃ y : Int32, y = v9.toInt8.toInt32 := ⟨_, rfl⟩
      refine lv_i2b hx hb dX12_four_18 ev10.symm ?_
      have rv10 : mm_rg v10 (-128) 127 := mm_i2b ev10
      refine va_bast hx hb hK.1 hP hD hS 1 0 rfl rfl (mm_in mm_k9 (by decide)) dX12_four_19 ?_
      clear hP hD hS
      clear H locs
      obtain ⟨g11, eg11⟩ : ∃ z : Nat → Int32, z = upd g5 (9 : Int32).toNatClampNeg (vp_nar .byte v10) := ⟨_, rfl⟩
      rw [← eg11]
      intro H locs (hP : va_P G vwCl [(a_0, .inr (12, [.int k_0, .ref a_1, .ref a_2, .ref a_3, .ref a_4, .ref a_5, .int 9, .int i_1, .int i_2, .int i_3, .int i_4, .long j_0, .int i_5, .int i_6, .int i_7, .int i_8, .ref a_6, .ref a_7, .ref a_8, .ref a_9, .ref a_10, .ref a_11, .ref a_12, .ref a_13, .ref a_14, .ref a_15, .ref a_16, .ref a_17, .ref a_18, .int i_9, .int i_10, .int i_11, .int i_12, .int i_13, .int i_14, .ref a_19, .int i_15, .ref a_20])), (a_5, .inl (cy 0, 600, .inl g11))] H) (hD : va_D A [(a_0, .inr (12, [.int k_0, .ref a_1, .ref a_2, .ref a_3, .ref a_4, .ref a_5, .int 9, .int i_1, .int i_2, .int i_3, .int i_4, .long j_0, .int i_5, .int i_6, .int i_7, .int i_8, .ref a_6, .ref a_7, .ref a_8, .ref a_9, .ref a_10, .ref a_11, .ref a_12, .ref a_13, .ref a_14, .ref a_15, .ref a_16, .ref a_17, .ref a_18, .int i_9, .int i_10, .int i_11, .int i_12, .int i_13, .int i_14, .ref a_19, .int i_15, .ref a_20])), (a_5, .inl (cy 0, 600, .inl g11))]) hS
      have rg11 : mm_ar g11 (-128) 127 := by rw [eg11]; exact mm_ar_upd (mm_ar_wk rg5 (by decide)) (mm_nb _) _
      refine lv_aload_n hx hb dX12_four_20 rfl (lv_at hl 1 rfl) ?_
      refine lv_dup hx hb dX12_four_21 rfl ?_
      refine va_get (D := G) (ci := 12) (v := .int 9) (C := RX12) (T := TX12) (N := 38) hx hb hts (mm_i inlX12) hown hK.1 hP 0 rfl rfl 6 (by decide) (mm_h hts mm_w178) (fun _ h9 => h9) rfl dX12_four_22 ?_
      refine lv_iconst (v := 1) hx hb dX12_four_25 (by decide) ?_
      refine lv_iadd hx hb dX12_four_26 ?_
      refine lv_topi (fun v12 ev12 => ?_)
      obtain rfl : v12 = 10 := ev12.trans (by decide)
      refine va_put (D := G) (ci := 12) (v := .int 10) (ty := tyX12 6) (C := RX12) (T := TX12) (N := 38) hx hb hts (mm_i inlX12) tyX12 tyX12_ok nmX12 hown hK.1 hP hD hS 0 rfl rfl 6 (by decide) (mm_h hts mm_w178) (fun _ h9 => h9) rfl (tyX12_ok 6 (by decide)) rfl rfl (Nat.le_of_ble_eq_true rfl) dX12_four_27 ?_
      clear hP hD hS
      clear H locs
      intro H locs (hP : va_P G vwCl [(a_0, .inr (12, [.int k_0, .ref a_1, .ref a_2, .ref a_3, .ref a_4, .ref a_5, .int 10, .int i_1, .int i_2, .int i_3, .int i_4, .long j_0, .int i_5, .int i_6, .int i_7, .int i_8, .ref a_6, .ref a_7, .ref a_8, .ref a_9, .ref a_10, .ref a_11, .ref a_12, .ref a_13, .ref a_14, .ref a_15, .ref a_16, .ref a_17, .ref a_18, .int i_9, .int i_10, .int i_11, .int i_12, .int i_13, .int i_14, .ref a_19, .int i_15, .ref a_20])), (a_5, .inl (cy 0, 600, .inl g11))] H) (hD : va_D A [(a_0, .inr (12, [.int k_0, .ref a_1, .ref a_2, .ref a_3, .ref a_4, .ref a_5, .int 10, .int i_1, .int i_2, .int i_3, .int i_4, .long j_0, .int i_5, .int i_6, .int i_7, .int i_8, .ref a_6, .ref a_7, .ref a_8, .ref a_9, .ref a_10, .ref a_11, .ref a_12, .ref a_13, .ref a_14, .ref a_15, .ref a_16, .ref a_17, .ref a_18, .int i_9, .int i_10, .int i_11, .int i_12, .int i_13, .int i_14, .ref a_19, .int i_15, .ref a_20])), (a_5, .inl (cy 0, 600, .inl g11))]) hS
      refine lv_iinc (v := 8) (lv' := [(2, .int 8), (0, .ref a_0), (1, .int i_0)]) hx hb dX12_four_30 hl (k := 0) rfl (by decide) (by decide) rfl ?_
      clear hl
      clear ls
      intro ls hl
      refine lv_goto (tgt := 3) hx hb dX12_four_33 (by decide) ?_
      refine lv_iload_n hx hb dX12_four_3 rfl (lv_at hl 0 rfl) ?_
      refine lv_if_lt (tgt := 36) hx hb dX12_four_4 (by decide) (fun c13 => ?_) (fun c13 => ?_)
      · have q14 := mm_ltL (h := (-1)) (mm_lt c13) mm_k8 mm_k0 (by decide)
        exact mm_no q14 (by decide)
      · refine lv_aload_n hx hb dX12_four_7 rfl (lv_at hl 1 rfl) ?_
        refine va_get (D := G) (ci := 12) (v := .ref a_5) (C := RX12) (T := TX12) (N := 38) hx hb hts (mm_i inlX12) hown hK.1 hP 0 rfl rfl 5 (by decide) (mm_h hts mm_w146) (fun _ h9 => h9) rfl dX12_four_8 ?_
        refine lv_aload_n hx hb dX12_four_11 rfl (lv_at hl 1 rfl) ?_
        refine va_get (D := G) (ci := 12) (v := .int 10) (C := RX12) (T := TX12) (N := 38) hx hb hts (mm_i inlX12) hown hK.1 hP 0 rfl rfl 6 (by decide) (mm_h hts mm_w178) (fun _ h9 => h9) rfl dX12_four_12 ?_
        refine lv_iload_n hx hb dX12_four_15 rfl (lv_at hl 2 rfl) ?_
        refine lv_iload_n hx hb dX12_four_16 rfl (lv_at hl 0 rfl) ?_
        refine lv_ishr hx hb dX12_four_17 ?_
        refine lv_topi (fun v15 ev15 => ?_)
        obtain ⟨v16, ev16⟩ : ∃ y : Int32, y = v15.toInt8.toInt32 := ⟨_, rfl⟩
        refine lv_i2b hx hb dX12_four_18 ev16.symm ?_
        have rv16 : mm_rg v16 (-128) 127 := mm_i2b ev16
        refine va_bast hx hb hK.1 hP hD hS 1 0 rfl rfl (mm_in mm_k10 (by decide)) dX12_four_19 ?_
        clear hP hD hS
        clear H locs
        obtain ⟨g17, eg17⟩ : ∃ z : Nat → Int32, z = upd g11 (10 : Int32).toNatClampNeg (vp_nar .byte v16) := ⟨_, rfl⟩
        rw [← eg17]
        intro H locs (hP : va_P G vwCl [(a_0, .inr (12, [.int k_0, .ref a_1, .ref a_2, .ref a_3, .ref a_4, .ref a_5, .int 10, .int i_1, .int i_2, .int i_3, .int i_4, .long j_0, .int i_5, .int i_6, .int i_7, .int i_8, .ref a_6, .ref a_7, .ref a_8, .ref a_9, .ref a_10, .ref a_11, .ref a_12, .ref a_13, .ref a_14, .ref a_15, .ref a_16, .ref a_17, .ref a_18, .int i_9, .int i_10, .int i_11, .int i_12, .int i_13, .int i_14, .ref a_19, .int i_15, .ref a_20])), (a_5, .inl (cy 0, 600, .inl g17))] H) (hD : va_D A [(a_0, .inr (12, [.int k_0, .ref a_1, .ref a_2, .ref a_3, .ref a_4, .ref a_5, .int 10, .int i_1, .int i_2, .int i_3, .int i_4, .long j_0, .int i_5, .int i_6, .int i_7, .int i_8, .ref a_6, .ref a_7, .ref a_8, .ref a_9, .ref a_10, .ref a_11, .ref a_12, .ref a_13, .ref a_14, .ref a_15, .ref a_16, .ref a_17, .ref a_18, .int i_9, .int i_10, .int i_11, .int i_12, .int i_13, .int i_14, .ref a_19, .int i_15, .ref a_20])), (a_5, .inl (cy 0, 600, .inl g17))]) hS
        have rg17 : mm_ar g17 (-128) 127 := by rw [eg17]; exact mm_ar_upd (mm_ar_wk rg11 (by decide)) (mm_nb _) _
        refine lv_aload_n hx hb dX12_four_20 rfl (lv_at hl 1 rfl) ?_
        refine lv_dup hx hb dX12_four_21 rfl ?_
        refine va_get (D := G) (ci := 12) (v := .int 10) (C := RX12) (T := TX12) (N := 38) hx hb hts (mm_i inlX12) hown hK.1 hP 0 rfl rfl 6 (by decide) (mm_h hts mm_w178) (fun _ h9 => h9) rfl dX12_four_22 ?_
        refine lv_iconst (v := 1) hx hb dX12_four_25 (by decide) ?_
        refine lv_iadd hx hb dX12_four_26 ?_
        refine lv_topi (fun v18 ev18 => ?_)
        obtain rfl : v18 = 11 := ev18.trans (by decide)
        refine va_put (D := G) (ci := 12) (v := .int 11) (ty := tyX12 6) (C := RX12) (T := TX12) (N := 38) hx hb hts (mm_i inlX12) tyX12 tyX12_ok nmX12 hown hK.1 hP hD hS 0 rfl rfl 6 (by decide) (mm_h hts mm_w178) (fun _ h9 => h9) rfl (tyX12_ok 6 (by decide)) rfl rfl (Nat.le_of_ble_eq_true rfl) dX12_four_27 ?_
        clear hP hD hS
        clear H locs
        intro H locs (hP : va_P G vwCl [(a_0, .inr (12, [.int k_0, .ref a_1, .ref a_2, .ref a_3, .ref a_4, .ref a_5, .int 11, .int i_1, .int i_2, .int i_3, .int i_4, .long j_0, .int i_5, .int i_6, .int i_7, .int i_8, .ref a_6, .ref a_7, .ref a_8, .ref a_9, .ref a_10, .ref a_11, .ref a_12, .ref a_13, .ref a_14, .ref a_15, .ref a_16, .ref a_17, .ref a_18, .int i_9, .int i_10, .int i_11, .int i_12, .int i_13, .int i_14, .ref a_19, .int i_15, .ref a_20])), (a_5, .inl (cy 0, 600, .inl g17))] H) (hD : va_D A [(a_0, .inr (12, [.int k_0, .ref a_1, .ref a_2, .ref a_3, .ref a_4, .ref a_5, .int 11, .int i_1, .int i_2, .int i_3, .int i_4, .long j_0, .int i_5, .int i_6, .int i_7, .int i_8, .ref a_6, .ref a_7, .ref a_8, .ref a_9, .ref a_10, .ref a_11, .ref a_12, .ref a_13, .ref a_14, .ref a_15, .ref a_16, .ref a_17, .ref a_18, .int i_9, .int i_10, .int i_11, .int i_12, .int i_13, .int i_14, .ref a_19, .int i_15, .ref a_20])), (a_5, .inl (cy 0, 600, .inl g17))]) hS
        refine lv_iinc (v := 0) (lv' := [(2, .int 0), (0, .ref a_0), (1, .int i_0)]) hx hb dX12_four_30 hl (k := 0) rfl (by decide) (by decide) rfl ?_
        clear hl
        clear ls
        intro ls hl
        refine lv_goto (tgt := 3) hx hb dX12_four_33 (by decide) ?_
        refine lv_iload_n hx hb dX12_four_3 rfl (lv_at hl 0 rfl) ?_
        refine lv_if_lt (tgt := 36) hx hb dX12_four_4 (by decide) (fun c19 => ?_) (fun c19 => ?_)
        · have q20 := mm_ltL (h := (-1)) (mm_lt c19) mm_k0 mm_k0 (by decide)
          exact mm_no q20 (by decide)
        · refine lv_aload_n hx hb dX12_four_7 rfl (lv_at hl 1 rfl) ?_
          refine va_get (D := G) (ci := 12) (v := .ref a_5) (C := RX12) (T := TX12) (N := 38) hx hb hts (mm_i inlX12) hown hK.1 hP 0 rfl rfl 5 (by decide) (mm_h hts mm_w146) (fun _ h9 => h9) rfl dX12_four_8 ?_
          refine lv_aload_n hx hb dX12_four_11 rfl (lv_at hl 1 rfl) ?_
          refine va_get (D := G) (ci := 12) (v := .int 11) (C := RX12) (T := TX12) (N := 38) hx hb hts (mm_i inlX12) hown hK.1 hP 0 rfl rfl 6 (by decide) (mm_h hts mm_w178) (fun _ h9 => h9) rfl dX12_four_12 ?_
          refine lv_iload_n hx hb dX12_four_15 rfl (lv_at hl 2 rfl) ?_
          refine lv_iload_n hx hb dX12_four_16 rfl (lv_at hl 0 rfl) ?_
          refine lv_ishr hx hb dX12_four_17 ?_
          refine lv_topi (fun v21 ev21 => ?_)
          obtain ⟨v22, ev22⟩ : ∃ y : Int32, y = v21.toInt8.toInt32 := ⟨_, rfl⟩
          refine lv_i2b hx hb dX12_four_18 ev22.symm ?_
          have rv22 : mm_rg v22 (-128) 127 := mm_i2b ev22
          refine va_bast hx hb hK.1 hP hD hS 1 0 rfl rfl (mm_in mm_k11 (by decide)) dX12_four_19 ?_
          clear hP hD hS
          clear H locs
          obtain ⟨g23, eg23⟩ : ∃ z : Nat → Int32, z = upd g17 (11 : Int32).toNatClampNeg (vp_nar .byte v22) := ⟨_, rfl⟩
          rw [← eg23]
          intro H locs (hP : va_P G vwCl [(a_0, .inr (12, [.int k_0, .ref a_1, .ref a_2, .ref a_3, .ref a_4, .ref a_5, .int 11, .int i_1, .int i_2, .int i_3, .int i_4, .long j_0, .int i_5, .int i_6, .int i_7, .int i_8, .ref a_6, .ref a_7, .ref a_8, .ref a_9, .ref a_10, .ref a_11, .ref a_12, .ref a_13, .ref a_14, .ref a_15, .ref a_16, .ref a_17, .ref a_18, .int i_9, .int i_10, .int i_11, .int i_12, .int i_13, .int i_14, .ref a_19, .int i_15, .ref a_20])), (a_5, .inl (cy 0, 600, .inl g23))] H) (hD : va_D A [(a_0, .inr (12, [.int k_0, .ref a_1, .ref a_2, .ref a_3, .ref a_4, .ref a_5, .int 11, .int i_1, .int i_2, .int i_3, .int i_4, .long j_0, .int i_5, .int i_6, .int i_7, .int i_8, .ref a_6, .ref a_7, .ref a_8, .ref a_9, .ref a_10, .ref a_11, .ref a_12, .ref a_13, .ref a_14, .ref a_15, .ref a_16, .ref a_17, .ref a_18, .int i_9, .int i_10, .int i_11, .int i_12, .int i_13, .int i_14, .ref a_19, .int i_15, .ref a_20])), (a_5, .inl (cy 0, 600, .inl g23))]) hS
          have rg23 : mm_ar g23 (-128) 127 := by rw [eg23]; exact mm_ar_upd (mm_ar_wk rg17 (by decide)) (mm_nb _) _
          refine lv_aload_n hx hb dX12_four_20 rfl (lv_at hl 1 rfl) ?_
          refine lv_dup hx hb dX12_four_21 rfl ?_
          refine va_get (D := G) (ci := 12) (v := .int 11) (C := RX12) (T := TX12) (N := 38) hx hb hts (mm_i inlX12) hown hK.1 hP 0 rfl rfl 6 (by decide) (mm_h hts mm_w178) (fun _ h9 => h9) rfl dX12_four_22 ?_
          refine lv_iconst (v := 1) hx hb dX12_four_25 (by decide) ?_
          refine lv_iadd hx hb dX12_four_26 ?_
          refine lv_topi (fun v24 ev24 => ?_)
          obtain rfl : v24 = 12 := ev24.trans (by decide)
          refine va_put (D := G) (ci := 12) (v := .int 12) (ty := tyX12 6) (C := RX12) (T := TX12) (N := 38) hx hb hts (mm_i inlX12) tyX12 tyX12_ok nmX12 hown hK.1 hP hD hS 0 rfl rfl 6 (by decide) (mm_h hts mm_w178) (fun _ h9 => h9) rfl (tyX12_ok 6 (by decide)) rfl rfl (Nat.le_of_ble_eq_true rfl) dX12_four_27 ?_
          clear hP hD hS
          clear H locs
          intro H locs (hP : va_P G vwCl [(a_0, .inr (12, [.int k_0, .ref a_1, .ref a_2, .ref a_3, .ref a_4, .ref a_5, .int 12, .int i_1, .int i_2, .int i_3, .int i_4, .long j_0, .int i_5, .int i_6, .int i_7, .int i_8, .ref a_6, .ref a_7, .ref a_8, .ref a_9, .ref a_10, .ref a_11, .ref a_12, .ref a_13, .ref a_14, .ref a_15, .ref a_16, .ref a_17, .ref a_18, .int i_9, .int i_10, .int i_11, .int i_12, .int i_13, .int i_14, .ref a_19, .int i_15, .ref a_20])), (a_5, .inl (cy 0, 600, .inl g23))] H) (hD : va_D A [(a_0, .inr (12, [.int k_0, .ref a_1, .ref a_2, .ref a_3, .ref a_4, .ref a_5, .int 12, .int i_1, .int i_2, .int i_3, .int i_4, .long j_0, .int i_5, .int i_6, .int i_7, .int i_8, .ref a_6, .ref a_7, .ref a_8, .ref a_9, .ref a_10, .ref a_11, .ref a_12, .ref a_13, .ref a_14, .ref a_15, .ref a_16, .ref a_17, .ref a_18, .int i_9, .int i_10, .int i_11, .int i_12, .int i_13, .int i_14, .ref a_19, .int i_15, .ref a_20])), (a_5, .inl (cy 0, 600, .inl g23))]) hS
          refine lv_iinc (v := (-8)) (lv' := [(2, .int (-8)), (0, .ref a_0), (1, .int i_0)]) hx hb dX12_four_30 hl (k := 0) rfl (by decide) (by decide) rfl ?_
          clear hl
          clear ls
          intro ls hl
          refine lv_goto (tgt := 3) hx hb dX12_four_33 (by decide) ?_
          refine lv_iload_n hx hb dX12_four_3 rfl (lv_at hl 0 rfl) ?_
          refine lv_if_lt (tgt := 36) hx hb dX12_four_4 (by decide) (fun c25 => ?_) (fun c25 => ?_)
          · subst hAe
            rw [hQ]
            exact W.vret hx hb hr (fun t ht hW => ⟨⟨g23, rfl, rg23, by rw [ht]; exact hP, hK.warm hW, hD⟩, hS.F ht⟩) hS.2.2 dX12_four_36
          · have q26 := mm_leL (mm_nlt c25) mm_k0 mm_km8
            exact mm_no q26 (by decide)

set_option maxHeartbeats 4000000 in
set_option maxRecDepth 100000 in
theorem K29_X12_four (l : Launch) (G : va_G) (cy : Nat → ClassId) (sz : Nat) (a_0 : Nat) (i_0 : Int32) (k_0 : Int32) (a_1 : Nat) (a_2 : Nat) (a_3 : Nat) (a_4 : Nat) (a_5 : Nat) (i_1 : Int32) (i_2 : Int32) (i_3 : Int32) (i_4 : Int32) (j_0 : Int64) (i_5 : Int32) (i_6 : Int32) (i_7 : Int32) (i_8 : Int32) (a_6 : Nat) (a_7 : Nat) (a_8 : Nat) (a_9 : Nat) (a_10 : Nat) (a_11 : Nat) (a_12 : Nat) (a_13 : Nat) (a_14 : Nat) (a_15 : Nat) (a_16 : Nat) (a_17 : Nat) (a_18 : Nat) (i_9 : Int32) (i_10 : Int32) (i_11 : Int32) (i_12 : Int32) (i_13 : Int32) (i_14 : Int32) (a_19 : Nat) (i_15 : Int32) (a_20 : Nat) (f_0 : Nat → Int32) (h0 : mm_ar f_0 (-128) 127)  : mm_CV l yX12_four (mm_ws yX12_four cX12_four 3 (none)) ({ frames := 0, cells := 0, slots := 0, locals := 0 } : Room) G cy sz [(a_0, .inr (12, [.int k_0, .ref a_1, .ref a_2, .ref a_3, .ref a_4, .ref a_5, .int 12, .int i_1, .int i_2, .int i_3, .int i_4, .long j_0, .int i_5, .int i_6, .int i_7, .int i_8, .ref a_6, .ref a_7, .ref a_8, .ref a_9, .ref a_10, .ref a_11, .ref a_12, .ref a_13, .ref a_14, .ref a_15, .ref a_16, .ref a_17, .ref a_18, .int i_9, .int i_10, .int i_11, .int i_12, .int i_13, .int i_14, .ref a_19, .int i_15, .ref a_20])), (a_5, .inl (cy 0, 600, .inl f_0))] [.ref a_0, .int i_0] (fun u : (Nat → Int32) => [(a_0, .inr (12, [.int k_0, .ref a_1, .ref a_2, .ref a_3, .ref a_4, .ref a_5, .int 16, .int i_1, .int i_2, .int i_3, .int i_4, .long j_0, .int i_5, .int i_6, .int i_7, .int i_8, .ref a_6, .ref a_7, .ref a_8, .ref a_9, .ref a_10, .ref a_11, .ref a_12, .ref a_13, .ref a_14, .ref a_15, .ref a_16, .ref a_17, .ref a_18, .int i_9, .int i_10, .int i_11, .int i_12, .int i_13, .int i_14, .ref a_19, .int i_15, .ref a_20])), (a_5, .inl (cy 0, 600, .inl u))]) (fun u : (Nat → Int32) => mm_ar u (-128) 127) 0 0 := by
  refine mm_begin (lv := [(0, .ref a_0), (1, .int i_0)]) (by decide) (Nat.le_of_ble_eq_true rfl) rfl ?_
  intro p e s m below meth c A ls R args Q H locs hRe hQ hAe hx hb hr hlocks hml hown hnm hts hsz hA hS hP hK hD hl
  have hRf : R.frames = 0 := by rw [hRe]
  have hRl : R.locals = 0 := by rw [hRe]
  have hRc : R.cells = 0 := by rw [hRe]
  have hRs : R.slots = 0 := by rw [hRe]
  refine lv_bipush (v := 24) hx hb dX12_four_0 (by decide) ?_
  refine lv_istore_n (lv' := [(2, .int 24), (0, .ref a_0), (1, .int i_0)]) hx hb dX12_four_2 rfl hl (by decide) rfl ?_
  clear hl
  clear ls
  intro ls hl
  refine lv_iload_n hx hb dX12_four_3 rfl (lv_at hl 0 rfl) ?_
  refine lv_if_lt (tgt := 36) hx hb dX12_four_4 (by decide) (fun c1 => ?_) (fun c1 => ?_)
  · have q2 := mm_ltL (h := (-1)) (mm_lt c1) mm_k24 mm_k0 (by decide)
    exact mm_no q2 (by decide)
  · refine lv_aload_n hx hb dX12_four_7 rfl (lv_at hl 1 rfl) ?_
    refine va_get (D := G) (ci := 12) (v := .ref a_5) (C := RX12) (T := TX12) (N := 38) hx hb hts (mm_i inlX12) hown hK.1 hP 0 rfl rfl 5 (by decide) (mm_h hts mm_w146) (fun _ h9 => h9) rfl dX12_four_8 ?_
    refine lv_aload_n hx hb dX12_four_11 rfl (lv_at hl 1 rfl) ?_
    refine va_get (D := G) (ci := 12) (v := .int 12) (C := RX12) (T := TX12) (N := 38) hx hb hts (mm_i inlX12) hown hK.1 hP 0 rfl rfl 6 (by decide) (mm_h hts mm_w178) (fun _ h9 => h9) rfl dX12_four_12 ?_
    refine lv_iload_n hx hb dX12_four_15 rfl (lv_at hl 2 rfl) ?_
    refine lv_iload_n hx hb dX12_four_16 rfl (lv_at hl 0 rfl) ?_
    refine lv_ishr hx hb dX12_four_17 ?_
    refine lv_topi (fun v3 ev3 => ?_)
    obtain ⟨v4, ev4⟩ : ∃ y : Int32, y = v3.toInt8.toInt32 := ⟨_, rfl⟩
    refine lv_i2b hx hb dX12_four_18 ev4.symm ?_
    have rv4 : mm_rg v4 (-128) 127 := mm_i2b ev4
    refine va_bast hx hb hK.1 hP hD hS 1 0 rfl rfl (mm_in mm_k12 (by decide)) dX12_four_19 ?_
    clear hP hD hS
    clear H locs
    obtain ⟨g5, eg5⟩ : ∃ z : Nat → Int32, z = upd f_0 (12 : Int32).toNatClampNeg (vp_nar .byte v4) := ⟨_, rfl⟩
    rw [← eg5]
    intro H locs (hP : va_P G vwCl [(a_0, .inr (12, [.int k_0, .ref a_1, .ref a_2, .ref a_3, .ref a_4, .ref a_5, .int 12, .int i_1, .int i_2, .int i_3, .int i_4, .long j_0, .int i_5, .int i_6, .int i_7, .int i_8, .ref a_6, .ref a_7, .ref a_8, .ref a_9, .ref a_10, .ref a_11, .ref a_12, .ref a_13, .ref a_14, .ref a_15, .ref a_16, .ref a_17, .ref a_18, .int i_9, .int i_10, .int i_11, .int i_12, .int i_13, .int i_14, .ref a_19, .int i_15, .ref a_20])), (a_5, .inl (cy 0, 600, .inl g5))] H) (hD : va_D A [(a_0, .inr (12, [.int k_0, .ref a_1, .ref a_2, .ref a_3, .ref a_4, .ref a_5, .int 12, .int i_1, .int i_2, .int i_3, .int i_4, .long j_0, .int i_5, .int i_6, .int i_7, .int i_8, .ref a_6, .ref a_7, .ref a_8, .ref a_9, .ref a_10, .ref a_11, .ref a_12, .ref a_13, .ref a_14, .ref a_15, .ref a_16, .ref a_17, .ref a_18, .int i_9, .int i_10, .int i_11, .int i_12, .int i_13, .int i_14, .ref a_19, .int i_15, .ref a_20])), (a_5, .inl (cy 0, 600, .inl g5))]) hS
    have rg5 : mm_ar g5 (-128) 127 := by rw [eg5]; exact mm_ar_upd (mm_ar_wk h0 (by decide)) (mm_nb _) _
    refine lv_aload_n hx hb dX12_four_20 rfl (lv_at hl 1 rfl) ?_
    refine lv_dup hx hb dX12_four_21 rfl ?_
    refine va_get (D := G) (ci := 12) (v := .int 12) (C := RX12) (T := TX12) (N := 38) hx hb hts (mm_i inlX12) hown hK.1 hP 0 rfl rfl 6 (by decide) (mm_h hts mm_w178) (fun _ h9 => h9) rfl dX12_four_22 ?_
    refine lv_iconst (v := 1) hx hb dX12_four_25 (by decide) ?_
    refine lv_iadd hx hb dX12_four_26 ?_
    refine lv_topi (fun v6 ev6 => ?_)
    obtain rfl : v6 = 13 := ev6.trans (by decide)
    refine va_put (D := G) (ci := 12) (v := .int 13) (ty := tyX12 6) (C := RX12) (T := TX12) (N := 38) hx hb hts (mm_i inlX12) tyX12 tyX12_ok nmX12 hown hK.1 hP hD hS 0 rfl rfl 6 (by decide) (mm_h hts mm_w178) (fun _ h9 => h9) rfl (tyX12_ok 6 (by decide)) rfl rfl (Nat.le_of_ble_eq_true rfl) dX12_four_27 ?_
    clear hP hD hS
    clear H locs
    intro H locs (hP : va_P G vwCl [(a_0, .inr (12, [.int k_0, .ref a_1, .ref a_2, .ref a_3, .ref a_4, .ref a_5, .int 13, .int i_1, .int i_2, .int i_3, .int i_4, .long j_0, .int i_5, .int i_6, .int i_7, .int i_8, .ref a_6, .ref a_7, .ref a_8, .ref a_9, .ref a_10, .ref a_11, .ref a_12, .ref a_13, .ref a_14, .ref a_15, .ref a_16, .ref a_17, .ref a_18, .int i_9, .int i_10, .int i_11, .int i_12, .int i_13, .int i_14, .ref a_19, .int i_15, .ref a_20])), (a_5, .inl (cy 0, 600, .inl g5))] H) (hD : va_D A [(a_0, .inr (12, [.int k_0, .ref a_1, .ref a_2, .ref a_3, .ref a_4, .ref a_5, .int 13, .int i_1, .int i_2, .int i_3, .int i_4, .long j_0, .int i_5, .int i_6, .int i_7, .int i_8, .ref a_6, .ref a_7, .ref a_8, .ref a_9, .ref a_10, .ref a_11, .ref a_12, .ref a_13, .ref a_14, .ref a_15, .ref a_16, .ref a_17, .ref a_18, .int i_9, .int i_10, .int i_11, .int i_12, .int i_13, .int i_14, .ref a_19, .int i_15, .ref a_20])), (a_5, .inl (cy 0, 600, .inl g5))]) hS
    refine lv_iinc (v := 16) (lv' := [(2, .int 16), (0, .ref a_0), (1, .int i_0)]) hx hb dX12_four_30 hl (k := 0) rfl (by decide) (by decide) rfl ?_
    clear hl
    clear ls
    intro ls hl
    refine lv_goto (tgt := 3) hx hb dX12_four_33 (by decide) ?_
    refine lv_iload_n hx hb dX12_four_3 rfl (lv_at hl 0 rfl) ?_
    refine lv_if_lt (tgt := 36) hx hb dX12_four_4 (by decide) (fun c7 => ?_) (fun c7 => ?_)
    · have q8 := mm_ltL (h := (-1)) (mm_lt c7) mm_k16 mm_k0 (by decide)
      exact mm_no q8 (by decide)
    · refine lv_aload_n hx hb dX12_four_7 rfl (lv_at hl 1 rfl) ?_
      refine va_get (D := G) (ci := 12) (v := .ref a_5) (C := RX12) (T := TX12) (N := 38) hx hb hts (mm_i inlX12) hown hK.1 hP 0 rfl rfl 5 (by decide) (mm_h hts mm_w146) (fun _ h9 => h9) rfl dX12_four_8 ?_
      refine lv_aload_n hx hb dX12_four_11 rfl (lv_at hl 1 rfl) ?_
      refine va_get (D := G) (ci := 12) (v := .int 13) (C := RX12) (T := TX12) (N := 38) hx hb hts (mm_i inlX12) hown hK.1 hP 0 rfl rfl 6 (by decide) (mm_h hts mm_w178) (fun _ h9 => h9) rfl dX12_four_12 ?_
      refine lv_iload_n hx hb dX12_four_15 rfl (lv_at hl 2 rfl) ?_
      refine lv_iload_n hx hb dX12_four_16 rfl (lv_at hl 0 rfl) ?_
      refine lv_ishr hx hb dX12_four_17 ?_
      refine lv_topi (fun v9 ev9 => ?_)
      obtain ⟨v10, ev10⟩ : ∃ y : Int32, y = v9.toInt8.toInt32 := ⟨_, rfl⟩
      refine lv_i2b hx hb dX12_four_18 ev10.symm ?_
      have rv10 : mm_rg v10 (-128) 127 := mm_i2b ev10
      refine va_bast hx hb hK.1 hP hD hS 1 0 rfl rfl (mm_in mm_k13 (by decide)) dX12_four_19 ?_
      clear hP hD hS
      clear H locs
      obtain ⟨g11, eg11⟩ : ∃ z : Nat → Int32, z = upd g5 (13 : Int32).toNatClampNeg (vp_nar .byte v10) := ⟨_, rfl⟩
      rw [← eg11]
      intro H locs (hP : va_P G vwCl [(a_0, .inr (12, [.int k_0, .ref a_1, .ref a_2, .ref a_3, .ref a_4, .ref a_5, .int 13, .int i_1, .int i_2, .int i_3, .int i_4, .long j_0, .int i_5, .int i_6, .int i_7, .int i_8, .ref a_6, .ref a_7, .ref a_8, .ref a_9, .ref a_10, .ref a_11, .ref a_12, .ref a_13, .ref a_14, .ref a_15, .ref a_16, .ref a_17, .ref a_18, .int i_9, .int i_10, .int i_11, .int i_12, .int i_13, .int i_14, .ref a_19, .int i_15, .ref a_20])), (a_5, .inl (cy 0, 600, .inl g11))] H) (hD : va_D A [(a_0, .inr (12, [.int k_0, .ref a_1, .ref a_2, .ref a_3, .ref a_4, .ref a_5, .int 13, .int i_1, .int i_2, .int i_3, .int i_4, .long j_0, .int i_5, .int i_6, .int i_7, .int i_8, .ref a_6, .ref a_7, .ref a_8, .ref a_9, .ref a_10, .ref a_11, .ref a_12, .ref a_13, .ref a_14, .ref a_15, .ref a_16, .ref a_17, .ref a_18, .int i_9, .int i_10, .int i_11, .int i_12, .int i_13, .int i_14, .ref a_19, .int i_15, .ref a_20])), (a_5, .inl (cy 0, 600, .inl g11))]) hS
      have rg11 : mm_ar g11 (-128) 127 := by rw [eg11]; exact mm_ar_upd (mm_ar_wk rg5 (by decide)) (mm_nb _) _
      refine lv_aload_n hx hb dX12_four_20 rfl (lv_at hl 1 rfl) ?_
      refine lv_dup hx hb dX12_four_21 rfl ?_
      refine va_get (D := G) (ci := 12) (v := .int 13) (C := RX12) (T := TX12) (N := 38) hx hb hts (mm_i inlX12) hown hK.1 hP 0 rfl rfl 6 (by decide) (mm_h hts mm_w178) (fun _ h9 => h9) rfl dX12_four_22 ?_
      refine lv_iconst (v := 1) hx hb dX12_four_25 (by decide) ?_
      refine lv_iadd hx hb dX12_four_26 ?_
      refine lv_topi (fun v12 ev12 => ?_)
      obtain rfl : v12 = 14 := ev12.trans (by decide)
      refine va_put (D := G) (ci := 12) (v := .int 14) (ty := tyX12 6) (C := RX12) (T := TX12) (N := 38) hx hb hts (mm_i inlX12) tyX12 tyX12_ok nmX12 hown hK.1 hP hD hS 0 rfl rfl 6 (by decide) (mm_h hts mm_w178) (fun _ h9 => h9) rfl (tyX12_ok 6 (by decide)) rfl rfl (Nat.le_of_ble_eq_true rfl) dX12_four_27 ?_
      clear hP hD hS
      clear H locs
      intro H locs (hP : va_P G vwCl [(a_0, .inr (12, [.int k_0, .ref a_1, .ref a_2, .ref a_3, .ref a_4, .ref a_5, .int 14, .int i_1, .int i_2, .int i_3, .int i_4, .long j_0, .int i_5, .int i_6, .int i_7, .int i_8, .ref a_6, .ref a_7, .ref a_8, .ref a_9, .ref a_10, .ref a_11, .ref a_12, .ref a_13, .ref a_14, .ref a_15, .ref a_16, .ref a_17, .ref a_18, .int i_9, .int i_10, .int i_11, .int i_12, .int i_13, .int i_14, .ref a_19, .int i_15, .ref a_20])), (a_5, .inl (cy 0, 600, .inl g11))] H) (hD : va_D A [(a_0, .inr (12, [.int k_0, .ref a_1, .ref a_2, .ref a_3, .ref a_4, .ref a_5, .int 14, .int i_1, .int i_2, .int i_3, .int i_4, .long j_0, .int i_5, .int i_6, .int i_7, .int i_8, .ref a_6, .ref a_7, .ref a_8, .ref a_9, .ref a_10, .ref a_11, .ref a_12, .ref a_13, .ref a_14, .ref a_15, .ref a_16, .ref a_17, .ref a_18, .int i_9, .int i_10, .int i_11, .int i_12, .int i_13, .int i_14, .ref a_19, .int i_15, .ref a_20])), (a_5, .inl (cy 0, 600, .inl g11))]) hS
      refine lv_iinc (v := 8) (lv' := [(2, .int 8), (0, .ref a_0), (1, .int i_0)]) hx hb dX12_four_30 hl (k := 0) rfl (by decide) (by decide) rfl ?_
      clear hl
      clear ls
      intro ls hl
      refine lv_goto (tgt := 3) hx hb dX12_four_33 (by decide) ?_
      refine lv_iload_n hx hb dX12_four_3 rfl (lv_at hl 0 rfl) ?_
      refine lv_if_lt (tgt := 36) hx hb dX12_four_4 (by decide) (fun c13 => ?_) (fun c13 => ?_)
      · have q14 := mm_ltL (h := (-1)) (mm_lt c13) mm_k8 mm_k0 (by decide)
        exact mm_no q14 (by decide)
      · refine lv_aload_n hx hb dX12_four_7 rfl (lv_at hl 1 rfl) ?_
        refine va_get (D := G) (ci := 12) (v := .ref a_5) (C := RX12) (T := TX12) (N := 38) hx hb hts (mm_i inlX12) hown hK.1 hP 0 rfl rfl 5 (by decide) (mm_h hts mm_w146) (fun _ h9 => h9) rfl dX12_four_8 ?_
        refine lv_aload_n hx hb dX12_four_11 rfl (lv_at hl 1 rfl) ?_
        refine va_get (D := G) (ci := 12) (v := .int 14) (C := RX12) (T := TX12) (N := 38) hx hb hts (mm_i inlX12) hown hK.1 hP 0 rfl rfl 6 (by decide) (mm_h hts mm_w178) (fun _ h9 => h9) rfl dX12_four_12 ?_
        refine lv_iload_n hx hb dX12_four_15 rfl (lv_at hl 2 rfl) ?_
        refine lv_iload_n hx hb dX12_four_16 rfl (lv_at hl 0 rfl) ?_
        refine lv_ishr hx hb dX12_four_17 ?_
        refine lv_topi (fun v15 ev15 => ?_)
        obtain ⟨v16, ev16⟩ : ∃ y : Int32, y = v15.toInt8.toInt32 := ⟨_, rfl⟩
        refine lv_i2b hx hb dX12_four_18 ev16.symm ?_
        have rv16 : mm_rg v16 (-128) 127 := mm_i2b ev16
        refine va_bast hx hb hK.1 hP hD hS 1 0 rfl rfl (mm_in mm_k14 (by decide)) dX12_four_19 ?_
        clear hP hD hS
        clear H locs
        obtain ⟨g17, eg17⟩ : ∃ z : Nat → Int32, z = upd g11 (14 : Int32).toNatClampNeg (vp_nar .byte v16) := ⟨_, rfl⟩
        rw [← eg17]
        intro H locs (hP : va_P G vwCl [(a_0, .inr (12, [.int k_0, .ref a_1, .ref a_2, .ref a_3, .ref a_4, .ref a_5, .int 14, .int i_1, .int i_2, .int i_3, .int i_4, .long j_0, .int i_5, .int i_6, .int i_7, .int i_8, .ref a_6, .ref a_7, .ref a_8, .ref a_9, .ref a_10, .ref a_11, .ref a_12, .ref a_13, .ref a_14, .ref a_15, .ref a_16, .ref a_17, .ref a_18, .int i_9, .int i_10, .int i_11, .int i_12, .int i_13, .int i_14, .ref a_19, .int i_15, .ref a_20])), (a_5, .inl (cy 0, 600, .inl g17))] H) (hD : va_D A [(a_0, .inr (12, [.int k_0, .ref a_1, .ref a_2, .ref a_3, .ref a_4, .ref a_5, .int 14, .int i_1, .int i_2, .int i_3, .int i_4, .long j_0, .int i_5, .int i_6, .int i_7, .int i_8, .ref a_6, .ref a_7, .ref a_8, .ref a_9, .ref a_10, .ref a_11, .ref a_12, .ref a_13, .ref a_14, .ref a_15, .ref a_16, .ref a_17, .ref a_18, .int i_9, .int i_10, .int i_11, .int i_12, .int i_13, .int i_14, .ref a_19, .int i_15, .ref a_20])), (a_5, .inl (cy 0, 600, .inl g17))]) hS
        have rg17 : mm_ar g17 (-128) 127 := by rw [eg17]; exact mm_ar_upd (mm_ar_wk rg11 (by decide)) (mm_nb _) _
        refine lv_aload_n hx hb dX12_four_20 rfl (lv_at hl 1 rfl) ?_
        refine lv_dup hx hb dX12_four_21 rfl ?_
        refine va_get (D := G) (ci := 12) (v := .int 14) (C := RX12) (T := TX12) (N := 38) hx hb hts (mm_i inlX12) hown hK.1 hP 0 rfl rfl 6 (by decide) (mm_h hts mm_w178) (fun _ h9 => h9) rfl dX12_four_22 ?_
        refine lv_iconst (v := 1) hx hb dX12_four_25 (by decide) ?_
        refine lv_iadd hx hb dX12_four_26 ?_
        refine lv_topi (fun v18 ev18 => ?_)
        obtain rfl : v18 = 15 := ev18.trans (by decide)
        refine va_put (D := G) (ci := 12) (v := .int 15) (ty := tyX12 6) (C := RX12) (T := TX12) (N := 38) hx hb hts (mm_i inlX12) tyX12 tyX12_ok nmX12 hown hK.1 hP hD hS 0 rfl rfl 6 (by decide) (mm_h hts mm_w178) (fun _ h9 => h9) rfl (tyX12_ok 6 (by decide)) rfl rfl (Nat.le_of_ble_eq_true rfl) dX12_four_27 ?_
        clear hP hD hS
        clear H locs
        intro H locs (hP : va_P G vwCl [(a_0, .inr (12, [.int k_0, .ref a_1, .ref a_2, .ref a_3, .ref a_4, .ref a_5, .int 15, .int i_1, .int i_2, .int i_3, .int i_4, .long j_0, .int i_5, .int i_6, .int i_7, .int i_8, .ref a_6, .ref a_7, .ref a_8, .ref a_9, .ref a_10, .ref a_11, .ref a_12, .ref a_13, .ref a_14, .ref a_15, .ref a_16, .ref a_17, .ref a_18, .int i_9, .int i_10, .int i_11, .int i_12, .int i_13, .int i_14, .ref a_19, .int i_15, .ref a_20])), (a_5, .inl (cy 0, 600, .inl g17))] H) (hD : va_D A [(a_0, .inr (12, [.int k_0, .ref a_1, .ref a_2, .ref a_3, .ref a_4, .ref a_5, .int 15, .int i_1, .int i_2, .int i_3, .int i_4, .long j_0, .int i_5, .int i_6, .int i_7, .int i_8, .ref a_6, .ref a_7, .ref a_8, .ref a_9, .ref a_10, .ref a_11, .ref a_12, .ref a_13, .ref a_14, .ref a_15, .ref a_16, .ref a_17, .ref a_18, .int i_9, .int i_10, .int i_11, .int i_12, .int i_13, .int i_14, .ref a_19, .int i_15, .ref a_20])), (a_5, .inl (cy 0, 600, .inl g17))]) hS
        refine lv_iinc (v := 0) (lv' := [(2, .int 0), (0, .ref a_0), (1, .int i_0)]) hx hb dX12_four_30 hl (k := 0) rfl (by decide) (by decide) rfl ?_
        clear hl
        clear ls
        intro ls hl
        refine lv_goto (tgt := 3) hx hb dX12_four_33 (by decide) ?_
        refine lv_iload_n hx hb dX12_four_3 rfl (lv_at hl 0 rfl) ?_
        refine lv_if_lt (tgt := 36) hx hb dX12_four_4 (by decide) (fun c19 => ?_) (fun c19 => ?_)
        · have q20 := mm_ltL (h := (-1)) (mm_lt c19) mm_k0 mm_k0 (by decide)
          exact mm_no q20 (by decide)
        · refine lv_aload_n hx hb dX12_four_7 rfl (lv_at hl 1 rfl) ?_
          refine va_get (D := G) (ci := 12) (v := .ref a_5) (C := RX12) (T := TX12) (N := 38) hx hb hts (mm_i inlX12) hown hK.1 hP 0 rfl rfl 5 (by decide) (mm_h hts mm_w146) (fun _ h9 => h9) rfl dX12_four_8 ?_
          refine lv_aload_n hx hb dX12_four_11 rfl (lv_at hl 1 rfl) ?_
          refine va_get (D := G) (ci := 12) (v := .int 15) (C := RX12) (T := TX12) (N := 38) hx hb hts (mm_i inlX12) hown hK.1 hP 0 rfl rfl 6 (by decide) (mm_h hts mm_w178) (fun _ h9 => h9) rfl dX12_four_12 ?_
          refine lv_iload_n hx hb dX12_four_15 rfl (lv_at hl 2 rfl) ?_
          refine lv_iload_n hx hb dX12_four_16 rfl (lv_at hl 0 rfl) ?_
          refine lv_ishr hx hb dX12_four_17 ?_
          refine lv_topi (fun v21 ev21 => ?_)
          obtain ⟨v22, ev22⟩ : ∃ y : Int32, y = v21.toInt8.toInt32 := ⟨_, rfl⟩
          refine lv_i2b hx hb dX12_four_18 ev22.symm ?_
          have rv22 : mm_rg v22 (-128) 127 := mm_i2b ev22
          refine va_bast hx hb hK.1 hP hD hS 1 0 rfl rfl (mm_in mm_k15 (by decide)) dX12_four_19 ?_
          clear hP hD hS
          clear H locs
          obtain ⟨g23, eg23⟩ : ∃ z : Nat → Int32, z = upd g17 (15 : Int32).toNatClampNeg (vp_nar .byte v22) := ⟨_, rfl⟩
          rw [← eg23]
          intro H locs (hP : va_P G vwCl [(a_0, .inr (12, [.int k_0, .ref a_1, .ref a_2, .ref a_3, .ref a_4, .ref a_5, .int 15, .int i_1, .int i_2, .int i_3, .int i_4, .long j_0, .int i_5, .int i_6, .int i_7, .int i_8, .ref a_6, .ref a_7, .ref a_8, .ref a_9, .ref a_10, .ref a_11, .ref a_12, .ref a_13, .ref a_14, .ref a_15, .ref a_16, .ref a_17, .ref a_18, .int i_9, .int i_10, .int i_11, .int i_12, .int i_13, .int i_14, .ref a_19, .int i_15, .ref a_20])), (a_5, .inl (cy 0, 600, .inl g23))] H) (hD : va_D A [(a_0, .inr (12, [.int k_0, .ref a_1, .ref a_2, .ref a_3, .ref a_4, .ref a_5, .int 15, .int i_1, .int i_2, .int i_3, .int i_4, .long j_0, .int i_5, .int i_6, .int i_7, .int i_8, .ref a_6, .ref a_7, .ref a_8, .ref a_9, .ref a_10, .ref a_11, .ref a_12, .ref a_13, .ref a_14, .ref a_15, .ref a_16, .ref a_17, .ref a_18, .int i_9, .int i_10, .int i_11, .int i_12, .int i_13, .int i_14, .ref a_19, .int i_15, .ref a_20])), (a_5, .inl (cy 0, 600, .inl g23))]) hS
          have rg23 : mm_ar g23 (-128) 127 := by rw [eg23]; exact mm_ar_upd (mm_ar_wk rg17 (by decide)) (mm_nb _) _
          refine lv_aload_n hx hb dX12_four_20 rfl (lv_at hl 1 rfl) ?_
          refine lv_dup hx hb dX12_four_21 rfl ?_
          refine va_get (D := G) (ci := 12) (v := .int 15) (C := RX12) (T := TX12) (N := 38) hx hb hts (mm_i inlX12) hown hK.1 hP 0 rfl rfl 6 (by decide) (mm_h hts mm_w178) (fun _ h9 => h9) rfl dX12_four_22 ?_
          refine lv_iconst (v := 1) hx hb dX12_four_25 (by decide) ?_
          refine lv_iadd hx hb dX12_four_26 ?_
          refine lv_topi (fun v24 ev24 => ?_)
          obtain rfl : v24 = 16 := ev24.trans (by decide)
          refine va_put (D := G) (ci := 12) (v := .int 16) (ty := tyX12 6) (C := RX12) (T := TX12) (N := 38) hx hb hts (mm_i inlX12) tyX12 tyX12_ok nmX12 hown hK.1 hP hD hS 0 rfl rfl 6 (by decide) (mm_h hts mm_w178) (fun _ h9 => h9) rfl (tyX12_ok 6 (by decide)) rfl rfl (Nat.le_of_ble_eq_true rfl) dX12_four_27 ?_
          clear hP hD hS
          clear H locs
          intro H locs (hP : va_P G vwCl [(a_0, .inr (12, [.int k_0, .ref a_1, .ref a_2, .ref a_3, .ref a_4, .ref a_5, .int 16, .int i_1, .int i_2, .int i_3, .int i_4, .long j_0, .int i_5, .int i_6, .int i_7, .int i_8, .ref a_6, .ref a_7, .ref a_8, .ref a_9, .ref a_10, .ref a_11, .ref a_12, .ref a_13, .ref a_14, .ref a_15, .ref a_16, .ref a_17, .ref a_18, .int i_9, .int i_10, .int i_11, .int i_12, .int i_13, .int i_14, .ref a_19, .int i_15, .ref a_20])), (a_5, .inl (cy 0, 600, .inl g23))] H) (hD : va_D A [(a_0, .inr (12, [.int k_0, .ref a_1, .ref a_2, .ref a_3, .ref a_4, .ref a_5, .int 16, .int i_1, .int i_2, .int i_3, .int i_4, .long j_0, .int i_5, .int i_6, .int i_7, .int i_8, .ref a_6, .ref a_7, .ref a_8, .ref a_9, .ref a_10, .ref a_11, .ref a_12, .ref a_13, .ref a_14, .ref a_15, .ref a_16, .ref a_17, .ref a_18, .int i_9, .int i_10, .int i_11, .int i_12, .int i_13, .int i_14, .ref a_19, .int i_15, .ref a_20])), (a_5, .inl (cy 0, 600, .inl g23))]) hS
          refine lv_iinc (v := (-8)) (lv' := [(2, .int (-8)), (0, .ref a_0), (1, .int i_0)]) hx hb dX12_four_30 hl (k := 0) rfl (by decide) (by decide) rfl ?_
          clear hl
          clear ls
          intro ls hl
          refine lv_goto (tgt := 3) hx hb dX12_four_33 (by decide) ?_
          refine lv_iload_n hx hb dX12_four_3 rfl (lv_at hl 0 rfl) ?_
          refine lv_if_lt (tgt := 36) hx hb dX12_four_4 (by decide) (fun c25 => ?_) (fun c25 => ?_)
          · subst hAe
            rw [hQ]
            exact W.vret hx hb hr (fun t ht hW => ⟨⟨g23, rfl, rg23, by rw [ht]; exact hP, hK.warm hW, hD⟩, hS.F ht⟩) hS.2.2 dX12_four_36
          · have q26 := mm_leL (mm_nlt c25) mm_k0 mm_km8
            exact mm_no q26 (by decide)

set_option maxHeartbeats 4000000 in
set_option maxRecDepth 100000 in
theorem K30_X12_four (l : Launch) (G : va_G) (cy : Nat → ClassId) (sz : Nat) (a_0 : Nat) (i_0 : Int32) (k_0 : Int32) (a_1 : Nat) (a_2 : Nat) (a_3 : Nat) (a_4 : Nat) (a_5 : Nat) (i_1 : Int32) (i_2 : Int32) (i_3 : Int32) (i_4 : Int32) (j_0 : Int64) (i_5 : Int32) (i_6 : Int32) (i_7 : Int32) (i_8 : Int32) (a_6 : Nat) (a_7 : Nat) (a_8 : Nat) (a_9 : Nat) (a_10 : Nat) (a_11 : Nat) (a_12 : Nat) (a_13 : Nat) (a_14 : Nat) (a_15 : Nat) (a_16 : Nat) (a_17 : Nat) (a_18 : Nat) (i_9 : Int32) (i_10 : Int32) (i_11 : Int32) (i_12 : Int32) (i_13 : Int32) (i_14 : Int32) (a_19 : Nat) (i_15 : Int32) (a_20 : Nat) (f_0 : Nat → Int32) (h0 : mm_ar f_0 (-128) 127)  : mm_CV l yX12_four (mm_ws yX12_four cX12_four 3 (none)) ({ frames := 0, cells := 0, slots := 0, locals := 0 } : Room) G cy sz [(a_0, .inr (12, [.int k_0, .ref a_1, .ref a_2, .ref a_3, .ref a_4, .ref a_5, .int 16, .int i_1, .int i_2, .int i_3, .int i_4, .long j_0, .int i_5, .int i_6, .int i_7, .int i_8, .ref a_6, .ref a_7, .ref a_8, .ref a_9, .ref a_10, .ref a_11, .ref a_12, .ref a_13, .ref a_14, .ref a_15, .ref a_16, .ref a_17, .ref a_18, .int i_9, .int i_10, .int i_11, .int i_12, .int i_13, .int i_14, .ref a_19, .int i_15, .ref a_20])), (a_5, .inl (cy 0, 600, .inl f_0))] [.ref a_0, .int i_0] (fun u : (Nat → Int32) => [(a_0, .inr (12, [.int k_0, .ref a_1, .ref a_2, .ref a_3, .ref a_4, .ref a_5, .int 20, .int i_1, .int i_2, .int i_3, .int i_4, .long j_0, .int i_5, .int i_6, .int i_7, .int i_8, .ref a_6, .ref a_7, .ref a_8, .ref a_9, .ref a_10, .ref a_11, .ref a_12, .ref a_13, .ref a_14, .ref a_15, .ref a_16, .ref a_17, .ref a_18, .int i_9, .int i_10, .int i_11, .int i_12, .int i_13, .int i_14, .ref a_19, .int i_15, .ref a_20])), (a_5, .inl (cy 0, 600, .inl u))]) (fun u : (Nat → Int32) => mm_ar u (-128) 127) 0 0 := by
  refine mm_begin (lv := [(0, .ref a_0), (1, .int i_0)]) (by decide) (Nat.le_of_ble_eq_true rfl) rfl ?_
  intro p e s m below meth c A ls R args Q H locs hRe hQ hAe hx hb hr hlocks hml hown hnm hts hsz hA hS hP hK hD hl
  have hRf : R.frames = 0 := by rw [hRe]
  have hRl : R.locals = 0 := by rw [hRe]
  have hRc : R.cells = 0 := by rw [hRe]
  have hRs : R.slots = 0 := by rw [hRe]
  refine lv_bipush (v := 24) hx hb dX12_four_0 (by decide) ?_
  refine lv_istore_n (lv' := [(2, .int 24), (0, .ref a_0), (1, .int i_0)]) hx hb dX12_four_2 rfl hl (by decide) rfl ?_
  clear hl
  clear ls
  intro ls hl
  refine lv_iload_n hx hb dX12_four_3 rfl (lv_at hl 0 rfl) ?_
  refine lv_if_lt (tgt := 36) hx hb dX12_four_4 (by decide) (fun c1 => ?_) (fun c1 => ?_)
  · have q2 := mm_ltL (h := (-1)) (mm_lt c1) mm_k24 mm_k0 (by decide)
    exact mm_no q2 (by decide)
  · refine lv_aload_n hx hb dX12_four_7 rfl (lv_at hl 1 rfl) ?_
    refine va_get (D := G) (ci := 12) (v := .ref a_5) (C := RX12) (T := TX12) (N := 38) hx hb hts (mm_i inlX12) hown hK.1 hP 0 rfl rfl 5 (by decide) (mm_h hts mm_w146) (fun _ h9 => h9) rfl dX12_four_8 ?_
    refine lv_aload_n hx hb dX12_four_11 rfl (lv_at hl 1 rfl) ?_
    refine va_get (D := G) (ci := 12) (v := .int 16) (C := RX12) (T := TX12) (N := 38) hx hb hts (mm_i inlX12) hown hK.1 hP 0 rfl rfl 6 (by decide) (mm_h hts mm_w178) (fun _ h9 => h9) rfl dX12_four_12 ?_
    refine lv_iload_n hx hb dX12_four_15 rfl (lv_at hl 2 rfl) ?_
    refine lv_iload_n hx hb dX12_four_16 rfl (lv_at hl 0 rfl) ?_
    refine lv_ishr hx hb dX12_four_17 ?_
    refine lv_topi (fun v3 ev3 => ?_)
    obtain ⟨v4, ev4⟩ : ∃ y : Int32, y = v3.toInt8.toInt32 := ⟨_, rfl⟩
    refine lv_i2b hx hb dX12_four_18 ev4.symm ?_
    have rv4 : mm_rg v4 (-128) 127 := mm_i2b ev4
    refine va_bast hx hb hK.1 hP hD hS 1 0 rfl rfl (mm_in mm_k16 (by decide)) dX12_four_19 ?_
    clear hP hD hS
    clear H locs
    obtain ⟨g5, eg5⟩ : ∃ z : Nat → Int32, z = upd f_0 (16 : Int32).toNatClampNeg (vp_nar .byte v4) := ⟨_, rfl⟩
    rw [← eg5]
    intro H locs (hP : va_P G vwCl [(a_0, .inr (12, [.int k_0, .ref a_1, .ref a_2, .ref a_3, .ref a_4, .ref a_5, .int 16, .int i_1, .int i_2, .int i_3, .int i_4, .long j_0, .int i_5, .int i_6, .int i_7, .int i_8, .ref a_6, .ref a_7, .ref a_8, .ref a_9, .ref a_10, .ref a_11, .ref a_12, .ref a_13, .ref a_14, .ref a_15, .ref a_16, .ref a_17, .ref a_18, .int i_9, .int i_10, .int i_11, .int i_12, .int i_13, .int i_14, .ref a_19, .int i_15, .ref a_20])), (a_5, .inl (cy 0, 600, .inl g5))] H) (hD : va_D A [(a_0, .inr (12, [.int k_0, .ref a_1, .ref a_2, .ref a_3, .ref a_4, .ref a_5, .int 16, .int i_1, .int i_2, .int i_3, .int i_4, .long j_0, .int i_5, .int i_6, .int i_7, .int i_8, .ref a_6, .ref a_7, .ref a_8, .ref a_9, .ref a_10, .ref a_11, .ref a_12, .ref a_13, .ref a_14, .ref a_15, .ref a_16, .ref a_17, .ref a_18, .int i_9, .int i_10, .int i_11, .int i_12, .int i_13, .int i_14, .ref a_19, .int i_15, .ref a_20])), (a_5, .inl (cy 0, 600, .inl g5))]) hS
    have rg5 : mm_ar g5 (-128) 127 := by rw [eg5]; exact mm_ar_upd (mm_ar_wk h0 (by decide)) (mm_nb _) _
    refine lv_aload_n hx hb dX12_four_20 rfl (lv_at hl 1 rfl) ?_
    refine lv_dup hx hb dX12_four_21 rfl ?_
    refine va_get (D := G) (ci := 12) (v := .int 16) (C := RX12) (T := TX12) (N := 38) hx hb hts (mm_i inlX12) hown hK.1 hP 0 rfl rfl 6 (by decide) (mm_h hts mm_w178) (fun _ h9 => h9) rfl dX12_four_22 ?_
    refine lv_iconst (v := 1) hx hb dX12_four_25 (by decide) ?_
    refine lv_iadd hx hb dX12_four_26 ?_
    refine lv_topi (fun v6 ev6 => ?_)
    obtain rfl : v6 = 17 := ev6.trans (by decide)
    refine va_put (D := G) (ci := 12) (v := .int 17) (ty := tyX12 6) (C := RX12) (T := TX12) (N := 38) hx hb hts (mm_i inlX12) tyX12 tyX12_ok nmX12 hown hK.1 hP hD hS 0 rfl rfl 6 (by decide) (mm_h hts mm_w178) (fun _ h9 => h9) rfl (tyX12_ok 6 (by decide)) rfl rfl (Nat.le_of_ble_eq_true rfl) dX12_four_27 ?_
    clear hP hD hS
    clear H locs
    intro H locs (hP : va_P G vwCl [(a_0, .inr (12, [.int k_0, .ref a_1, .ref a_2, .ref a_3, .ref a_4, .ref a_5, .int 17, .int i_1, .int i_2, .int i_3, .int i_4, .long j_0, .int i_5, .int i_6, .int i_7, .int i_8, .ref a_6, .ref a_7, .ref a_8, .ref a_9, .ref a_10, .ref a_11, .ref a_12, .ref a_13, .ref a_14, .ref a_15, .ref a_16, .ref a_17, .ref a_18, .int i_9, .int i_10, .int i_11, .int i_12, .int i_13, .int i_14, .ref a_19, .int i_15, .ref a_20])), (a_5, .inl (cy 0, 600, .inl g5))] H) (hD : va_D A [(a_0, .inr (12, [.int k_0, .ref a_1, .ref a_2, .ref a_3, .ref a_4, .ref a_5, .int 17, .int i_1, .int i_2, .int i_3, .int i_4, .long j_0, .int i_5, .int i_6, .int i_7, .int i_8, .ref a_6, .ref a_7, .ref a_8, .ref a_9, .ref a_10, .ref a_11, .ref a_12, .ref a_13, .ref a_14, .ref a_15, .ref a_16, .ref a_17, .ref a_18, .int i_9, .int i_10, .int i_11, .int i_12, .int i_13, .int i_14, .ref a_19, .int i_15, .ref a_20])), (a_5, .inl (cy 0, 600, .inl g5))]) hS
    refine lv_iinc (v := 16) (lv' := [(2, .int 16), (0, .ref a_0), (1, .int i_0)]) hx hb dX12_four_30 hl (k := 0) rfl (by decide) (by decide) rfl ?_
    clear hl
    clear ls
    intro ls hl
    refine lv_goto (tgt := 3) hx hb dX12_four_33 (by decide) ?_
    refine lv_iload_n hx hb dX12_four_3 rfl (lv_at hl 0 rfl) ?_
    refine lv_if_lt (tgt := 36) hx hb dX12_four_4 (by decide) (fun c7 => ?_) (fun c7 => ?_)
    · have q8 := mm_ltL (h := (-1)) (mm_lt c7) mm_k16 mm_k0 (by decide)
      exact mm_no q8 (by decide)
    · refine lv_aload_n hx hb dX12_four_7 rfl (lv_at hl 1 rfl) ?_
      refine va_get (D := G) (ci := 12) (v := .ref a_5) (C := RX12) (T := TX12) (N := 38) hx hb hts (mm_i inlX12) hown hK.1 hP 0 rfl rfl 5 (by decide) (mm_h hts mm_w146) (fun _ h9 => h9) rfl dX12_four_8 ?_
      refine lv_aload_n hx hb dX12_four_11 rfl (lv_at hl 1 rfl) ?_
      refine va_get (D := G) (ci := 12) (v := .int 17) (C := RX12) (T := TX12) (N := 38) hx hb hts (mm_i inlX12) hown hK.1 hP 0 rfl rfl 6 (by decide) (mm_h hts mm_w178) (fun _ h9 => h9) rfl dX12_four_12 ?_
      refine lv_iload_n hx hb dX12_four_15 rfl (lv_at hl 2 rfl) ?_
      refine lv_iload_n hx hb dX12_four_16 rfl (lv_at hl 0 rfl) ?_
      refine lv_ishr hx hb dX12_four_17 ?_
      refine lv_topi (fun v9 ev9 => ?_)
      obtain ⟨v10, ev10⟩ : ∃ y : Int32, y = v9.toInt8.toInt32 := ⟨_, rfl⟩
      refine lv_i2b hx hb dX12_four_18 ev10.symm ?_
      have rv10 : mm_rg v10 (-128) 127 := mm_i2b ev10
      refine va_bast hx hb hK.1 hP hD hS 1 0 rfl rfl (mm_in mm_k17 (by decide)) dX12_four_19 ?_
      clear hP hD hS
      clear H locs
      obtain ⟨g11, eg11⟩ : ∃ z : Nat → Int32, z = upd g5 (17 : Int32).toNatClampNeg (vp_nar .byte v10) := ⟨_, rfl⟩
      rw [← eg11]
      intro H locs (hP : va_P G vwCl [(a_0, .inr (12, [.int k_0, .ref a_1, .ref a_2, .ref a_3, .ref a_4, .ref a_5, .int 17, .int i_1, .int i_2, .int i_3, .int i_4, .long j_0, .int i_5, .int i_6, .int i_7, .int i_8, .ref a_6, .ref a_7, .ref a_8, .ref a_9, .ref a_10, .ref a_11, .ref a_12, .ref a_13, .ref a_14, .ref a_15, .ref a_16, .ref a_17, .ref a_18, .int i_9, .int i_10, .int i_11, .int i_12, .int i_13, .int i_14, .ref a_19, .int i_15, .ref a_20])), (a_5, .inl (cy 0, 600, .inl g11))] H) (hD : va_D A [(a_0, .inr (12, [.int k_0, .ref a_1, .ref a_2, .ref a_3, .ref a_4, .ref a_5, .int 17, .int i_1, .int i_2, .int i_3, .int i_4, .long j_0, .int i_5, .int i_6, .int i_7, .int i_8, .ref a_6, .ref a_7, .ref a_8, .ref a_9, .ref a_10, .ref a_11, .ref a_12, .ref a_13, .ref a_14, .ref a_15, .ref a_16, .ref a_17, .ref a_18, .int i_9, .int i_10, .int i_11, .int i_12, .int i_13, .int i_14, .ref a_19, .int i_15, .ref a_20])), (a_5, .inl (cy 0, 600, .inl g11))]) hS
      have rg11 : mm_ar g11 (-128) 127 := by rw [eg11]; exact mm_ar_upd (mm_ar_wk rg5 (by decide)) (mm_nb _) _
      refine lv_aload_n hx hb dX12_four_20 rfl (lv_at hl 1 rfl) ?_
      refine lv_dup hx hb dX12_four_21 rfl ?_
      refine va_get (D := G) (ci := 12) (v := .int 17) (C := RX12) (T := TX12) (N := 38) hx hb hts (mm_i inlX12) hown hK.1 hP 0 rfl rfl 6 (by decide) (mm_h hts mm_w178) (fun _ h9 => h9) rfl dX12_four_22 ?_
      refine lv_iconst (v := 1) hx hb dX12_four_25 (by decide) ?_
      refine lv_iadd hx hb dX12_four_26 ?_
      refine lv_topi (fun v12 ev12 => ?_)
      obtain rfl : v12 = 18 := ev12.trans (by decide)
      refine va_put (D := G) (ci := 12) (v := .int 18) (ty := tyX12 6) (C := RX12) (T := TX12) (N := 38) hx hb hts (mm_i inlX12) tyX12 tyX12_ok nmX12 hown hK.1 hP hD hS 0 rfl rfl 6 (by decide) (mm_h hts mm_w178) (fun _ h9 => h9) rfl (tyX12_ok 6 (by decide)) rfl rfl (Nat.le_of_ble_eq_true rfl) dX12_four_27 ?_
      clear hP hD hS
      clear H locs
      intro H locs (hP : va_P G vwCl [(a_0, .inr (12, [.int k_0, .ref a_1, .ref a_2, .ref a_3, .ref a_4, .ref a_5, .int 18, .int i_1, .int i_2, .int i_3, .int i_4, .long j_0, .int i_5, .int i_6, .int i_7, .int i_8, .ref a_6, .ref a_7, .ref a_8, .ref a_9, .ref a_10, .ref a_11, .ref a_12, .ref a_13, .ref a_14, .ref a_15, .ref a_16, .ref a_17, .ref a_18, .int i_9, .int i_10, .int i_11, .int i_12, .int i_13, .int i_14, .ref a_19, .int i_15, .ref a_20])), (a_5, .inl (cy 0, 600, .inl g11))] H) (hD : va_D A [(a_0, .inr (12, [.int k_0, .ref a_1, .ref a_2, .ref a_3, .ref a_4, .ref a_5, .int 18, .int i_1, .int i_2, .int i_3, .int i_4, .long j_0, .int i_5, .int i_6, .int i_7, .int i_8, .ref a_6, .ref a_7, .ref a_8, .ref a_9, .ref a_10, .ref a_11, .ref a_12, .ref a_13, .ref a_14, .ref a_15, .ref a_16, .ref a_17, .ref a_18, .int i_9, .int i_10, .int i_11, .int i_12, .int i_13, .int i_14, .ref a_19, .int i_15, .ref a_20])), (a_5, .inl (cy 0, 600, .inl g11))]) hS
      refine lv_iinc (v := 8) (lv' := [(2, .int 8), (0, .ref a_0), (1, .int i_0)]) hx hb dX12_four_30 hl (k := 0) rfl (by decide) (by decide) rfl ?_
      clear hl
      clear ls
      intro ls hl
      refine lv_goto (tgt := 3) hx hb dX12_four_33 (by decide) ?_
      refine lv_iload_n hx hb dX12_four_3 rfl (lv_at hl 0 rfl) ?_
      refine lv_if_lt (tgt := 36) hx hb dX12_four_4 (by decide) (fun c13 => ?_) (fun c13 => ?_)
      · have q14 := mm_ltL (h := (-1)) (mm_lt c13) mm_k8 mm_k0 (by decide)
        exact mm_no q14 (by decide)
      · refine lv_aload_n hx hb dX12_four_7 rfl (lv_at hl 1 rfl) ?_
        refine va_get (D := G) (ci := 12) (v := .ref a_5) (C := RX12) (T := TX12) (N := 38) hx hb hts (mm_i inlX12) hown hK.1 hP 0 rfl rfl 5 (by decide) (mm_h hts mm_w146) (fun _ h9 => h9) rfl dX12_four_8 ?_
        refine lv_aload_n hx hb dX12_four_11 rfl (lv_at hl 1 rfl) ?_
        refine va_get (D := G) (ci := 12) (v := .int 18) (C := RX12) (T := TX12) (N := 38) hx hb hts (mm_i inlX12) hown hK.1 hP 0 rfl rfl 6 (by decide) (mm_h hts mm_w178) (fun _ h9 => h9) rfl dX12_four_12 ?_
        refine lv_iload_n hx hb dX12_four_15 rfl (lv_at hl 2 rfl) ?_
        refine lv_iload_n hx hb dX12_four_16 rfl (lv_at hl 0 rfl) ?_
        refine lv_ishr hx hb dX12_four_17 ?_
        refine lv_topi (fun v15 ev15 => ?_)
        obtain ⟨v16, ev16⟩ : ∃ y : Int32, y = v15.toInt8.toInt32 := ⟨_, rfl⟩
        refine lv_i2b hx hb dX12_four_18 ev16.symm ?_
        have rv16 : mm_rg v16 (-128) 127 := mm_i2b ev16
        refine va_bast hx hb hK.1 hP hD hS 1 0 rfl rfl (mm_in mm_k18 (by decide)) dX12_four_19 ?_
        clear hP hD hS
        clear H locs
        obtain ⟨g17, eg17⟩ : ∃ z : Nat → Int32, z = upd g11 (18 : Int32).toNatClampNeg (vp_nar .byte v16) := ⟨_, rfl⟩
        rw [← eg17]
        intro H locs (hP : va_P G vwCl [(a_0, .inr (12, [.int k_0, .ref a_1, .ref a_2, .ref a_3, .ref a_4, .ref a_5, .int 18, .int i_1, .int i_2, .int i_3, .int i_4, .long j_0, .int i_5, .int i_6, .int i_7, .int i_8, .ref a_6, .ref a_7, .ref a_8, .ref a_9, .ref a_10, .ref a_11, .ref a_12, .ref a_13, .ref a_14, .ref a_15, .ref a_16, .ref a_17, .ref a_18, .int i_9, .int i_10, .int i_11, .int i_12, .int i_13, .int i_14, .ref a_19, .int i_15, .ref a_20])), (a_5, .inl (cy 0, 600, .inl g17))] H) (hD : va_D A [(a_0, .inr (12, [.int k_0, .ref a_1, .ref a_2, .ref a_3, .ref a_4, .ref a_5, .int 18, .int i_1, .int i_2, .int i_3, .int i_4, .long j_0, .int i_5, .int i_6, .int i_7, .int i_8, .ref a_6, .ref a_7, .ref a_8, .ref a_9, .ref a_10, .ref a_11, .ref a_12, .ref a_13, .ref a_14, .ref a_15, .ref a_16, .ref a_17, .ref a_18, .int i_9, .int i_10, .int i_11, .int i_12, .int i_13, .int i_14, .ref a_19, .int i_15, .ref a_20])), (a_5, .inl (cy 0, 600, .inl g17))]) hS
        have rg17 : mm_ar g17 (-128) 127 := by rw [eg17]; exact mm_ar_upd (mm_ar_wk rg11 (by decide)) (mm_nb _) _
        refine lv_aload_n hx hb dX12_four_20 rfl (lv_at hl 1 rfl) ?_
        refine lv_dup hx hb dX12_four_21 rfl ?_
        refine va_get (D := G) (ci := 12) (v := .int 18) (C := RX12) (T := TX12) (N := 38) hx hb hts (mm_i inlX12) hown hK.1 hP 0 rfl rfl 6 (by decide) (mm_h hts mm_w178) (fun _ h9 => h9) rfl dX12_four_22 ?_
        refine lv_iconst (v := 1) hx hb dX12_four_25 (by decide) ?_
        refine lv_iadd hx hb dX12_four_26 ?_
        refine lv_topi (fun v18 ev18 => ?_)
        obtain rfl : v18 = 19 := ev18.trans (by decide)
        refine va_put (D := G) (ci := 12) (v := .int 19) (ty := tyX12 6) (C := RX12) (T := TX12) (N := 38) hx hb hts (mm_i inlX12) tyX12 tyX12_ok nmX12 hown hK.1 hP hD hS 0 rfl rfl 6 (by decide) (mm_h hts mm_w178) (fun _ h9 => h9) rfl (tyX12_ok 6 (by decide)) rfl rfl (Nat.le_of_ble_eq_true rfl) dX12_four_27 ?_
        clear hP hD hS
        clear H locs
        intro H locs (hP : va_P G vwCl [(a_0, .inr (12, [.int k_0, .ref a_1, .ref a_2, .ref a_3, .ref a_4, .ref a_5, .int 19, .int i_1, .int i_2, .int i_3, .int i_4, .long j_0, .int i_5, .int i_6, .int i_7, .int i_8, .ref a_6, .ref a_7, .ref a_8, .ref a_9, .ref a_10, .ref a_11, .ref a_12, .ref a_13, .ref a_14, .ref a_15, .ref a_16, .ref a_17, .ref a_18, .int i_9, .int i_10, .int i_11, .int i_12, .int i_13, .int i_14, .ref a_19, .int i_15, .ref a_20])), (a_5, .inl (cy 0, 600, .inl g17))] H) (hD : va_D A [(a_0, .inr (12, [.int k_0, .ref a_1, .ref a_2, .ref a_3, .ref a_4, .ref a_5, .int 19, .int i_1, .int i_2, .int i_3, .int i_4, .long j_0, .int i_5, .int i_6, .int i_7, .int i_8, .ref a_6, .ref a_7, .ref a_8, .ref a_9, .ref a_10, .ref a_11, .ref a_12, .ref a_13, .ref a_14, .ref a_15, .ref a_16, .ref a_17, .ref a_18, .int i_9, .int i_10, .int i_11, .int i_12, .int i_13, .int i_14, .ref a_19, .int i_15, .ref a_20])), (a_5, .inl (cy 0, 600, .inl g17))]) hS
        refine lv_iinc (v := 0) (lv' := [(2, .int 0), (0, .ref a_0), (1, .int i_0)]) hx hb dX12_four_30 hl (k := 0) rfl (by decide) (by decide) rfl ?_
        clear hl
        clear ls
        intro ls hl
        refine lv_goto (tgt := 3) hx hb dX12_four_33 (by decide) ?_
        refine lv_iload_n hx hb dX12_four_3 rfl (lv_at hl 0 rfl) ?_
        refine lv_if_lt (tgt := 36) hx hb dX12_four_4 (by decide) (fun c19 => ?_) (fun c19 => ?_)
        · have q20 := mm_ltL (h := (-1)) (mm_lt c19) mm_k0 mm_k0 (by decide)
          exact mm_no q20 (by decide)
        · refine lv_aload_n hx hb dX12_four_7 rfl (lv_at hl 1 rfl) ?_
          refine va_get (D := G) (ci := 12) (v := .ref a_5) (C := RX12) (T := TX12) (N := 38) hx hb hts (mm_i inlX12) hown hK.1 hP 0 rfl rfl 5 (by decide) (mm_h hts mm_w146) (fun _ h9 => h9) rfl dX12_four_8 ?_
          refine lv_aload_n hx hb dX12_four_11 rfl (lv_at hl 1 rfl) ?_
          refine va_get (D := G) (ci := 12) (v := .int 19) (C := RX12) (T := TX12) (N := 38) hx hb hts (mm_i inlX12) hown hK.1 hP 0 rfl rfl 6 (by decide) (mm_h hts mm_w178) (fun _ h9 => h9) rfl dX12_four_12 ?_
          refine lv_iload_n hx hb dX12_four_15 rfl (lv_at hl 2 rfl) ?_
          refine lv_iload_n hx hb dX12_four_16 rfl (lv_at hl 0 rfl) ?_
          refine lv_ishr hx hb dX12_four_17 ?_
          refine lv_topi (fun v21 ev21 => ?_)
          obtain ⟨v22, ev22⟩ : ∃ y : Int32, y = v21.toInt8.toInt32 := ⟨_, rfl⟩
          refine lv_i2b hx hb dX12_four_18 ev22.symm ?_
          have rv22 : mm_rg v22 (-128) 127 := mm_i2b ev22
          refine va_bast hx hb hK.1 hP hD hS 1 0 rfl rfl (mm_in mm_k19 (by decide)) dX12_four_19 ?_
          clear hP hD hS
          clear H locs
          obtain ⟨g23, eg23⟩ : ∃ z : Nat → Int32, z = upd g17 (19 : Int32).toNatClampNeg (vp_nar .byte v22) := ⟨_, rfl⟩
          rw [← eg23]
          intro H locs (hP : va_P G vwCl [(a_0, .inr (12, [.int k_0, .ref a_1, .ref a_2, .ref a_3, .ref a_4, .ref a_5, .int 19, .int i_1, .int i_2, .int i_3, .int i_4, .long j_0, .int i_5, .int i_6, .int i_7, .int i_8, .ref a_6, .ref a_7, .ref a_8, .ref a_9, .ref a_10, .ref a_11, .ref a_12, .ref a_13, .ref a_14, .ref a_15, .ref a_16, .ref a_17, .ref a_18, .int i_9, .int i_10, .int i_11, .int i_12, .int i_13, .int i_14, .ref a_19, .int i_15, .ref a_20])), (a_5, .inl (cy 0, 600, .inl g23))] H) (hD : va_D A [(a_0, .inr (12, [.int k_0, .ref a_1, .ref a_2, .ref a_3, .ref a_4, .ref a_5, .int 19, .int i_1, .int i_2, .int i_3, .int i_4, .long j_0, .int i_5, .int i_6, .int i_7, .int i_8, .ref a_6, .ref a_7, .ref a_8, .ref a_9, .ref a_10, .ref a_11, .ref a_12, .ref a_13, .ref a_14, .ref a_15, .ref a_16, .ref a_17, .ref a_18, .int i_9, .int i_10, .int i_11, .int i_12, .int i_13, .int i_14, .ref a_19, .int i_15, .ref a_20])), (a_5, .inl (cy 0, 600, .inl g23))]) hS
          have rg23 : mm_ar g23 (-128) 127 := by rw [eg23]; exact mm_ar_upd (mm_ar_wk rg17 (by decide)) (mm_nb _) _
          refine lv_aload_n hx hb dX12_four_20 rfl (lv_at hl 1 rfl) ?_
          refine lv_dup hx hb dX12_four_21 rfl ?_
          refine va_get (D := G) (ci := 12) (v := .int 19) (C := RX12) (T := TX12) (N := 38) hx hb hts (mm_i inlX12) hown hK.1 hP 0 rfl rfl 6 (by decide) (mm_h hts mm_w178) (fun _ h9 => h9) rfl dX12_four_22 ?_
          refine lv_iconst (v := 1) hx hb dX12_four_25 (by decide) ?_
          refine lv_iadd hx hb dX12_four_26 ?_
          refine lv_topi (fun v24 ev24 => ?_)
          obtain rfl : v24 = 20 := ev24.trans (by decide)
          refine va_put (D := G) (ci := 12) (v := .int 20) (ty := tyX12 6) (C := RX12) (T := TX12) (N := 38) hx hb hts (mm_i inlX12) tyX12 tyX12_ok nmX12 hown hK.1 hP hD hS 0 rfl rfl 6 (by decide) (mm_h hts mm_w178) (fun _ h9 => h9) rfl (tyX12_ok 6 (by decide)) rfl rfl (Nat.le_of_ble_eq_true rfl) dX12_four_27 ?_
          clear hP hD hS
          clear H locs
          intro H locs (hP : va_P G vwCl [(a_0, .inr (12, [.int k_0, .ref a_1, .ref a_2, .ref a_3, .ref a_4, .ref a_5, .int 20, .int i_1, .int i_2, .int i_3, .int i_4, .long j_0, .int i_5, .int i_6, .int i_7, .int i_8, .ref a_6, .ref a_7, .ref a_8, .ref a_9, .ref a_10, .ref a_11, .ref a_12, .ref a_13, .ref a_14, .ref a_15, .ref a_16, .ref a_17, .ref a_18, .int i_9, .int i_10, .int i_11, .int i_12, .int i_13, .int i_14, .ref a_19, .int i_15, .ref a_20])), (a_5, .inl (cy 0, 600, .inl g23))] H) (hD : va_D A [(a_0, .inr (12, [.int k_0, .ref a_1, .ref a_2, .ref a_3, .ref a_4, .ref a_5, .int 20, .int i_1, .int i_2, .int i_3, .int i_4, .long j_0, .int i_5, .int i_6, .int i_7, .int i_8, .ref a_6, .ref a_7, .ref a_8, .ref a_9, .ref a_10, .ref a_11, .ref a_12, .ref a_13, .ref a_14, .ref a_15, .ref a_16, .ref a_17, .ref a_18, .int i_9, .int i_10, .int i_11, .int i_12, .int i_13, .int i_14, .ref a_19, .int i_15, .ref a_20])), (a_5, .inl (cy 0, 600, .inl g23))]) hS
          refine lv_iinc (v := (-8)) (lv' := [(2, .int (-8)), (0, .ref a_0), (1, .int i_0)]) hx hb dX12_four_30 hl (k := 0) rfl (by decide) (by decide) rfl ?_
          clear hl
          clear ls
          intro ls hl
          refine lv_goto (tgt := 3) hx hb dX12_four_33 (by decide) ?_
          refine lv_iload_n hx hb dX12_four_3 rfl (lv_at hl 0 rfl) ?_
          refine lv_if_lt (tgt := 36) hx hb dX12_four_4 (by decide) (fun c25 => ?_) (fun c25 => ?_)
          · subst hAe
            rw [hQ]
            exact W.vret hx hb hr (fun t ht hW => ⟨⟨g23, rfl, rg23, by rw [ht]; exact hP, hK.warm hW, hD⟩, hS.F ht⟩) hS.2.2 dX12_four_36
          · have q26 := mm_leL (mm_nlt c25) mm_k0 mm_km8
            exact mm_no q26 (by decide)

set_option maxHeartbeats 4000000 in
set_option maxRecDepth 100000 in
theorem K25_X12_feed (l : Launch) (G : va_G) (cy : Nat → ClassId) (sz : Nat) (a_0 : Nat) (i_0 : Int32) (i_1 : Int32) (i_2 : Int32) (i_3 : Int32) (i_4 : Int32) (a_1 : Nat) (a_2 : Nat) (a_3 : Nat) (a_4 : Nat) (a_5 : Nat) (k_0 : Int32) (k_1 : Int32) (k_2 : Int32) (k_3 : Int32) (k_4 : Int64) (k_5 : Int32) (k_6 : Int32) (k_7 : Int32) (k_8 : Int32) (a_6 : Nat) (a_7 : Nat) (a_8 : Nat) (a_9 : Nat) (a_10 : Nat) (a_11 : Nat) (a_12 : Nat) (a_13 : Nat) (a_14 : Nat) (a_15 : Nat) (a_16 : Nat) (a_17 : Nat) (a_18 : Nat) (k_9 : Int32) (k_10 : Int32) (k_11 : Int32) (k_12 : Int32) (k_13 : Int32) (k_14 : Int32) (a_19 : Nat) (k_15 : Int32) (a_20 : Nat)   : mm_CI l yX12_feed (mm_ws yX12_feed cX12_feed 6 (some .int)) ({ frames := 1, cells := 0, slots := 0, locals := 22 } : Room) G cy sz [(a_0, .inr (12, [.int 0, .ref a_1, .ref a_2, .ref a_3, .ref a_4, .ref a_5, .int 0, .int k_0, .int k_1, .int k_2, .int k_3, .long k_4, .int k_5, .int k_6, .int k_7, .int k_8, .ref a_6, .ref a_7, .ref a_8, .ref a_9, .ref a_10, .ref a_11, .ref a_12, .ref a_13, .ref a_14, .ref a_15, .ref a_16, .ref a_17, .ref a_18, .int k_9, .int k_10, .int k_11, .int k_12, .int k_13, .int k_14, .ref a_19, .int k_15, .ref a_20])), (a_5, .inl (cy 0, 600, .inl (fun _ => 0)))] [.ref a_0, .int i_0, .int i_1, .int i_2, .int i_3, .int i_4] (fun u : (Nat → Int32) => [(a_0, .inr (12, [.int 0, .ref a_1, .ref a_2, .ref a_3, .ref a_4, .ref a_5, .int 20, .int k_0, .int k_1, .int k_2, .int k_3, .long k_4, .int k_5, .int k_6, .int k_7, .int k_8, .ref a_6, .ref a_7, .ref a_8, .ref a_9, .ref a_10, .ref a_11, .ref a_12, .ref a_13, .ref a_14, .ref a_15, .ref a_16, .ref a_17, .ref a_18, .int k_9, .int k_10, .int k_11, .int k_12, .int k_13, .int k_14, .ref a_19, .int k_15, .ref a_20])), (a_5, .inl (cy 0, 600, .inl u))]) (fun (r : Int32) (u : (Nat → Int32)) => mm_ar u (-128) 127 ∧ 20 = r) 0 0 := by
  refine mm_begin (lv := [(0, .ref a_0), (1, .int i_0), (2, .int i_1), (3, .int i_2), (4, .int i_3), (5, .int i_4)]) (by decide) (Nat.le_of_ble_eq_true rfl) rfl ?_
  intro p e s m below meth c A ls R args Q H locs hRe hQ hAe hx hb hr hlocks hml hown hnm hts hsz hA hS hP hK hD hl
  have hRf : R.frames = 1 := by rw [hRe]
  have hRl : R.locals = 22 := by rw [hRe]
  have hRc : R.cells = 0 := by rw [hRe]
  have hRs : R.slots = 0 := by rw [hRe]
  refine lv_aload_n hx hb dX12_feed_0 rfl (lv_at hl 0 rfl) ?_
  refine lv_iconst (v := 0) hx hb dX12_feed_1 (by decide) ?_
  refine va_put (D := G) (ci := 12) (v := .int 0) (ty := tyX12 0) (C := RX12) (T := TX12) (N := 38) hx hb hts (mm_i inlX12) tyX12 tyX12_ok nmX12 hown hK.1 hP hD hS 0 rfl rfl 0 (by decide) (mm_h hts mm_w177) (fun _ h9 => h9) rfl (tyX12_ok 0 (by decide)) rfl rfl (Nat.le_of_ble_eq_true rfl) dX12_feed_2 ?_
  clear hP hD hS
  clear H locs
  intro H locs (hP : va_P G vwCl [(a_0, .inr (12, [.int 0, .ref a_1, .ref a_2, .ref a_3, .ref a_4, .ref a_5, .int 0, .int k_0, .int k_1, .int k_2, .int k_3, .long k_4, .int k_5, .int k_6, .int k_7, .int k_8, .ref a_6, .ref a_7, .ref a_8, .ref a_9, .ref a_10, .ref a_11, .ref a_12, .ref a_13, .ref a_14, .ref a_15, .ref a_16, .ref a_17, .ref a_18, .int k_9, .int k_10, .int k_11, .int k_12, .int k_13, .int k_14, .ref a_19, .int k_15, .ref a_20])), (a_5, .inl (cy 0, 600, .inl (fun _ => 0)))] H) (hD : va_D A [(a_0, .inr (12, [.int 0, .ref a_1, .ref a_2, .ref a_3, .ref a_4, .ref a_5, .int 0, .int k_0, .int k_1, .int k_2, .int k_3, .long k_4, .int k_5, .int k_6, .int k_7, .int k_8, .ref a_6, .ref a_7, .ref a_8, .ref a_9, .ref a_10, .ref a_11, .ref a_12, .ref a_13, .ref a_14, .ref a_15, .ref a_16, .ref a_17, .ref a_18, .int k_9, .int k_10, .int k_11, .int k_12, .int k_13, .int k_14, .ref a_19, .int k_15, .ref a_20])), (a_5, .inl (cy 0, 600, .inl (fun _ => 0)))]) hS
  refine lv_aload_n hx hb dX12_feed_5 rfl (lv_at hl 0 rfl) ?_
  refine va_get (D := G) (ci := 12) (v := .int 0) (C := RX12) (T := TX12) (N := 38) hx hb hts (mm_i inlX12) hown hK.1 hP 0 rfl rfl 6 (by decide) (mm_h hts mm_w178) (fun _ h9 => h9) rfl dX12_feed_6 ?_
  refine lv_bipush (v := 20) hx hb dX12_feed_9 (by decide) ?_
  refine lv_iadd hx hb dX12_feed_11 ?_
  refine lv_topi (fun v1 ev1 => ?_)
  obtain rfl : v1 = 20 := ev1.trans (by decide)
  refine lv_sipush (v := 600) hx hb dX12_feed_12 (by decide) ?_
  refine lv_icmp_le (tgt := 20) hx hb dX12_feed_15 (by decide) (fun c2 => ?_) (fun c2 => ?_)
  · refine lv_aload_n hx hb dX12_feed_20 rfl (lv_at hl 0 rfl) ?_
    refine lv_iload_n hx hb dX12_feed_21 rfl (lv_at hl 1 rfl) ?_
    refine mm_finv (va_runV (As := [.int i_0]) (rest := []) ⟨hx, hb, hml, hown, hts⟩ (K26_X12_four l G cy H.size a_0 i_0 0 a_1 a_2 a_3 a_4 a_5 k_0 k_1 k_2 k_3 k_4 k_5 k_6 k_7 k_8 a_6 a_7 a_8 a_9 a_10 a_11 a_12 a_13 a_14 a_15 a_16 a_17 a_18 k_9 k_10 k_11 k_12 k_13 k_14 a_19 k_15 a_20 ) (cwV 1 hts (mm_gV mm_w179 mm_w180 mm_w181 mm_w5 mm_w182) rfl rfl rfl hd_X12_four ⟨by rw [hRf]; exact Nat.le_of_ble_eq_true rfl, by rw [hRl]; exact Nat.le_of_ble_eq_true rfl⟩) (mm_preV hK hP hD [0, 1] rfl rfl 0 rfl rfl rfl) rfl rfl hl.1 rfl (lv_room (Nat.le_of_ble_eq_true rfl)) dX12_feed_22 ⟨by rw [hRc]; exact Nat.le_of_ble_eq_true rfl, by rw [hRs]; exact Nat.le_of_ble_eq_true rfl⟩) hP hD hS hA (fun u : (Nat → Int32) => [(a_0, .inr (12, [.int 0, .ref a_1, .ref a_2, .ref a_3, .ref a_4, .ref a_5, .int 4, .int k_0, .int k_1, .int k_2, .int k_3, .long k_4, .int k_5, .int k_6, .int k_7, .int k_8, .ref a_6, .ref a_7, .ref a_8, .ref a_9, .ref a_10, .ref a_11, .ref a_12, .ref a_13, .ref a_14, .ref a_15, .ref a_16, .ref a_17, .ref a_18, .int k_9, .int k_10, .int k_11, .int k_12, .int k_13, .int k_14, .ref a_19, .int k_15, .ref a_20])), (a_5, .inl (cy 0, 600, .inl u))]) [0, 1] [] (n := 2) (fun _ => rfl) (by decide +kernel) (by decide +kernel) rfl (fun _ => rfl) (wr := []) rfl (fun _ => rfl) (fun _ => rfl) ?_
    clear hP hD hS
    clear H locs
    intro n3 H locs hw (hP : va_P G vwCl [(a_0, .inr (12, [.int 0, .ref a_1, .ref a_2, .ref a_3, .ref a_4, .ref a_5, .int 4, .int k_0, .int k_1, .int k_2, .int k_3, .long k_4, .int k_5, .int k_6, .int k_7, .int k_8, .ref a_6, .ref a_7, .ref a_8, .ref a_9, .ref a_10, .ref a_11, .ref a_12, .ref a_13, .ref a_14, .ref a_15, .ref a_16, .ref a_17, .ref a_18, .int k_9, .int k_10, .int k_11, .int k_12, .int k_13, .int k_14, .ref a_19, .int k_15, .ref a_20])), (a_5, .inl (cy 0, 600, .inl n3))] H) (hD : va_D A [(a_0, .inr (12, [.int 0, .ref a_1, .ref a_2, .ref a_3, .ref a_4, .ref a_5, .int 4, .int k_0, .int k_1, .int k_2, .int k_3, .long k_4, .int k_5, .int k_6, .int k_7, .int k_8, .ref a_6, .ref a_7, .ref a_8, .ref a_9, .ref a_10, .ref a_11, .ref a_12, .ref a_13, .ref a_14, .ref a_15, .ref a_16, .ref a_17, .ref a_18, .int k_9, .int k_10, .int k_11, .int k_12, .int k_13, .int k_14, .ref a_19, .int k_15, .ref a_20])), (a_5, .inl (cy 0, 600, .inl n3))]) hS
    have w4 := hw
    refine lv_aload_n hx hb dX12_feed_25 rfl (lv_at hl 0 rfl) ?_
    refine lv_iload_n hx hb dX12_feed_26 rfl (lv_at hl 2 rfl) ?_
    refine mm_finv (va_runV (As := [.int i_1]) (rest := []) ⟨hx, hb, hml, hown, hts⟩ (K27_X12_four l G cy H.size a_0 i_1 0 a_1 a_2 a_3 a_4 a_5 k_0 k_1 k_2 k_3 k_4 k_5 k_6 k_7 k_8 a_6 a_7 a_8 a_9 a_10 a_11 a_12 a_13 a_14 a_15 a_16 a_17 a_18 k_9 k_10 k_11 k_12 k_13 k_14 a_19 k_15 a_20 n3 w4) (cwV 1 hts (mm_gV mm_w179 mm_w180 mm_w181 mm_w5 mm_w182) rfl rfl rfl hd_X12_four ⟨by rw [hRf]; exact Nat.le_of_ble_eq_true rfl, by rw [hRl]; exact Nat.le_of_ble_eq_true rfl⟩) (mm_preV hK hP hD [0, 1] rfl rfl 0 rfl rfl rfl) rfl rfl hl.1 rfl (lv_room (Nat.le_of_ble_eq_true rfl)) dX12_feed_27 ⟨by rw [hRc]; exact Nat.le_of_ble_eq_true rfl, by rw [hRs]; exact Nat.le_of_ble_eq_true rfl⟩) hP hD hS hA (fun u : (Nat → Int32) => [(a_0, .inr (12, [.int 0, .ref a_1, .ref a_2, .ref a_3, .ref a_4, .ref a_5, .int 8, .int k_0, .int k_1, .int k_2, .int k_3, .long k_4, .int k_5, .int k_6, .int k_7, .int k_8, .ref a_6, .ref a_7, .ref a_8, .ref a_9, .ref a_10, .ref a_11, .ref a_12, .ref a_13, .ref a_14, .ref a_15, .ref a_16, .ref a_17, .ref a_18, .int k_9, .int k_10, .int k_11, .int k_12, .int k_13, .int k_14, .ref a_19, .int k_15, .ref a_20])), (a_5, .inl (cy 0, 600, .inl u))]) [0, 1] [] (n := 2) (fun _ => rfl) (by decide +kernel) (by decide +kernel) rfl (fun _ => rfl) (wr := []) rfl (fun _ => rfl) (fun _ => rfl) ?_
    clear hP hD hS
    clear H locs
    intro n5 H locs hw (hP : va_P G vwCl [(a_0, .inr (12, [.int 0, .ref a_1, .ref a_2, .ref a_3, .ref a_4, .ref a_5, .int 8, .int k_0, .int k_1, .int k_2, .int k_3, .long k_4, .int k_5, .int k_6, .int k_7, .int k_8, .ref a_6, .ref a_7, .ref a_8, .ref a_9, .ref a_10, .ref a_11, .ref a_12, .ref a_13, .ref a_14, .ref a_15, .ref a_16, .ref a_17, .ref a_18, .int k_9, .int k_10, .int k_11, .int k_12, .int k_13, .int k_14, .ref a_19, .int k_15, .ref a_20])), (a_5, .inl (cy 0, 600, .inl n5))] H) (hD : va_D A [(a_0, .inr (12, [.int 0, .ref a_1, .ref a_2, .ref a_3, .ref a_4, .ref a_5, .int 8, .int k_0, .int k_1, .int k_2, .int k_3, .long k_4, .int k_5, .int k_6, .int k_7, .int k_8, .ref a_6, .ref a_7, .ref a_8, .ref a_9, .ref a_10, .ref a_11, .ref a_12, .ref a_13, .ref a_14, .ref a_15, .ref a_16, .ref a_17, .ref a_18, .int k_9, .int k_10, .int k_11, .int k_12, .int k_13, .int k_14, .ref a_19, .int k_15, .ref a_20])), (a_5, .inl (cy 0, 600, .inl n5))]) hS
    have w6 := hw
    refine lv_aload_n hx hb dX12_feed_30 rfl (lv_at hl 0 rfl) ?_
    refine lv_iload_n hx hb dX12_feed_31 rfl (lv_at hl 3 rfl) ?_
    refine mm_finv (va_runV (As := [.int i_2]) (rest := []) ⟨hx, hb, hml, hown, hts⟩ (K28_X12_four l G cy H.size a_0 i_2 0 a_1 a_2 a_3 a_4 a_5 k_0 k_1 k_2 k_3 k_4 k_5 k_6 k_7 k_8 a_6 a_7 a_8 a_9 a_10 a_11 a_12 a_13 a_14 a_15 a_16 a_17 a_18 k_9 k_10 k_11 k_12 k_13 k_14 a_19 k_15 a_20 n5 w6) (cwV 1 hts (mm_gV mm_w179 mm_w180 mm_w181 mm_w5 mm_w182) rfl rfl rfl hd_X12_four ⟨by rw [hRf]; exact Nat.le_of_ble_eq_true rfl, by rw [hRl]; exact Nat.le_of_ble_eq_true rfl⟩) (mm_preV hK hP hD [0, 1] rfl rfl 0 rfl rfl rfl) rfl rfl hl.1 rfl (lv_room (Nat.le_of_ble_eq_true rfl)) dX12_feed_32 ⟨by rw [hRc]; exact Nat.le_of_ble_eq_true rfl, by rw [hRs]; exact Nat.le_of_ble_eq_true rfl⟩) hP hD hS hA (fun u : (Nat → Int32) => [(a_0, .inr (12, [.int 0, .ref a_1, .ref a_2, .ref a_3, .ref a_4, .ref a_5, .int 12, .int k_0, .int k_1, .int k_2, .int k_3, .long k_4, .int k_5, .int k_6, .int k_7, .int k_8, .ref a_6, .ref a_7, .ref a_8, .ref a_9, .ref a_10, .ref a_11, .ref a_12, .ref a_13, .ref a_14, .ref a_15, .ref a_16, .ref a_17, .ref a_18, .int k_9, .int k_10, .int k_11, .int k_12, .int k_13, .int k_14, .ref a_19, .int k_15, .ref a_20])), (a_5, .inl (cy 0, 600, .inl u))]) [0, 1] [] (n := 2) (fun _ => rfl) (by decide +kernel) (by decide +kernel) rfl (fun _ => rfl) (wr := []) rfl (fun _ => rfl) (fun _ => rfl) ?_
    clear hP hD hS
    clear H locs
    intro n7 H locs hw (hP : va_P G vwCl [(a_0, .inr (12, [.int 0, .ref a_1, .ref a_2, .ref a_3, .ref a_4, .ref a_5, .int 12, .int k_0, .int k_1, .int k_2, .int k_3, .long k_4, .int k_5, .int k_6, .int k_7, .int k_8, .ref a_6, .ref a_7, .ref a_8, .ref a_9, .ref a_10, .ref a_11, .ref a_12, .ref a_13, .ref a_14, .ref a_15, .ref a_16, .ref a_17, .ref a_18, .int k_9, .int k_10, .int k_11, .int k_12, .int k_13, .int k_14, .ref a_19, .int k_15, .ref a_20])), (a_5, .inl (cy 0, 600, .inl n7))] H) (hD : va_D A [(a_0, .inr (12, [.int 0, .ref a_1, .ref a_2, .ref a_3, .ref a_4, .ref a_5, .int 12, .int k_0, .int k_1, .int k_2, .int k_3, .long k_4, .int k_5, .int k_6, .int k_7, .int k_8, .ref a_6, .ref a_7, .ref a_8, .ref a_9, .ref a_10, .ref a_11, .ref a_12, .ref a_13, .ref a_14, .ref a_15, .ref a_16, .ref a_17, .ref a_18, .int k_9, .int k_10, .int k_11, .int k_12, .int k_13, .int k_14, .ref a_19, .int k_15, .ref a_20])), (a_5, .inl (cy 0, 600, .inl n7))]) hS
    have w8 := hw
    refine lv_aload_n hx hb dX12_feed_35 rfl (lv_at hl 0 rfl) ?_
    refine lv_iload hx hb dX12_feed_36 (lv_at hl 4 rfl) ?_
    refine mm_finv (va_runV (As := [.int i_3]) (rest := []) ⟨hx, hb, hml, hown, hts⟩ (K29_X12_four l G cy H.size a_0 i_3 0 a_1 a_2 a_3 a_4 a_5 k_0 k_1 k_2 k_3 k_4 k_5 k_6 k_7 k_8 a_6 a_7 a_8 a_9 a_10 a_11 a_12 a_13 a_14 a_15 a_16 a_17 a_18 k_9 k_10 k_11 k_12 k_13 k_14 a_19 k_15 a_20 n7 w8) (cwV 1 hts (mm_gV mm_w179 mm_w180 mm_w181 mm_w5 mm_w182) rfl rfl rfl hd_X12_four ⟨by rw [hRf]; exact Nat.le_of_ble_eq_true rfl, by rw [hRl]; exact Nat.le_of_ble_eq_true rfl⟩) (mm_preV hK hP hD [0, 1] rfl rfl 0 rfl rfl rfl) rfl rfl hl.1 rfl (lv_room (Nat.le_of_ble_eq_true rfl)) dX12_feed_38 ⟨by rw [hRc]; exact Nat.le_of_ble_eq_true rfl, by rw [hRs]; exact Nat.le_of_ble_eq_true rfl⟩) hP hD hS hA (fun u : (Nat → Int32) => [(a_0, .inr (12, [.int 0, .ref a_1, .ref a_2, .ref a_3, .ref a_4, .ref a_5, .int 16, .int k_0, .int k_1, .int k_2, .int k_3, .long k_4, .int k_5, .int k_6, .int k_7, .int k_8, .ref a_6, .ref a_7, .ref a_8, .ref a_9, .ref a_10, .ref a_11, .ref a_12, .ref a_13, .ref a_14, .ref a_15, .ref a_16, .ref a_17, .ref a_18, .int k_9, .int k_10, .int k_11, .int k_12, .int k_13, .int k_14, .ref a_19, .int k_15, .ref a_20])), (a_5, .inl (cy 0, 600, .inl u))]) [0, 1] [] (n := 2) (fun _ => rfl) (by decide +kernel) (by decide +kernel) rfl (fun _ => rfl) (wr := []) rfl (fun _ => rfl) (fun _ => rfl) ?_
    clear hP hD hS
    clear H locs
    intro n9 H locs hw (hP : va_P G vwCl [(a_0, .inr (12, [.int 0, .ref a_1, .ref a_2, .ref a_3, .ref a_4, .ref a_5, .int 16, .int k_0, .int k_1, .int k_2, .int k_3, .long k_4, .int k_5, .int k_6, .int k_7, .int k_8, .ref a_6, .ref a_7, .ref a_8, .ref a_9, .ref a_10, .ref a_11, .ref a_12, .ref a_13, .ref a_14, .ref a_15, .ref a_16, .ref a_17, .ref a_18, .int k_9, .int k_10, .int k_11, .int k_12, .int k_13, .int k_14, .ref a_19, .int k_15, .ref a_20])), (a_5, .inl (cy 0, 600, .inl n9))] H) (hD : va_D A [(a_0, .inr (12, [.int 0, .ref a_1, .ref a_2, .ref a_3, .ref a_4, .ref a_5, .int 16, .int k_0, .int k_1, .int k_2, .int k_3, .long k_4, .int k_5, .int k_6, .int k_7, .int k_8, .ref a_6, .ref a_7, .ref a_8, .ref a_9, .ref a_10, .ref a_11, .ref a_12, .ref a_13, .ref a_14, .ref a_15, .ref a_16, .ref a_17, .ref a_18, .int k_9, .int k_10, .int k_11, .int k_12, .int k_13, .int k_14, .ref a_19, .int k_15, .ref a_20])), (a_5, .inl (cy 0, 600, .inl n9))]) hS
    have w10 := hw
    refine lv_aload_n hx hb dX12_feed_41 rfl (lv_at hl 0 rfl) ?_
    refine lv_iload hx hb dX12_feed_42 (lv_at hl 5 rfl) ?_
    refine mm_finv (va_runV (As := [.int i_4]) (rest := []) ⟨hx, hb, hml, hown, hts⟩ (K30_X12_four l G cy H.size a_0 i_4 0 a_1 a_2 a_3 a_4 a_5 k_0 k_1 k_2 k_3 k_4 k_5 k_6 k_7 k_8 a_6 a_7 a_8 a_9 a_10 a_11 a_12 a_13 a_14 a_15 a_16 a_17 a_18 k_9 k_10 k_11 k_12 k_13 k_14 a_19 k_15 a_20 n9 w10) (cwV 1 hts (mm_gV mm_w179 mm_w180 mm_w181 mm_w5 mm_w182) rfl rfl rfl hd_X12_four ⟨by rw [hRf]; exact Nat.le_of_ble_eq_true rfl, by rw [hRl]; exact Nat.le_of_ble_eq_true rfl⟩) (mm_preV hK hP hD [0, 1] rfl rfl 0 rfl rfl rfl) rfl rfl hl.1 rfl (lv_room (Nat.le_of_ble_eq_true rfl)) dX12_feed_44 ⟨by rw [hRc]; exact Nat.le_of_ble_eq_true rfl, by rw [hRs]; exact Nat.le_of_ble_eq_true rfl⟩) hP hD hS hA (fun u : (Nat → Int32) => [(a_0, .inr (12, [.int 0, .ref a_1, .ref a_2, .ref a_3, .ref a_4, .ref a_5, .int 20, .int k_0, .int k_1, .int k_2, .int k_3, .long k_4, .int k_5, .int k_6, .int k_7, .int k_8, .ref a_6, .ref a_7, .ref a_8, .ref a_9, .ref a_10, .ref a_11, .ref a_12, .ref a_13, .ref a_14, .ref a_15, .ref a_16, .ref a_17, .ref a_18, .int k_9, .int k_10, .int k_11, .int k_12, .int k_13, .int k_14, .ref a_19, .int k_15, .ref a_20])), (a_5, .inl (cy 0, 600, .inl u))]) [0, 1] [] (n := 2) (fun _ => rfl) (by decide +kernel) (by decide +kernel) rfl (fun _ => rfl) (wr := []) rfl (fun _ => rfl) (fun _ => rfl) ?_
    clear hP hD hS
    clear H locs
    intro n11 H locs hw (hP : va_P G vwCl [(a_0, .inr (12, [.int 0, .ref a_1, .ref a_2, .ref a_3, .ref a_4, .ref a_5, .int 20, .int k_0, .int k_1, .int k_2, .int k_3, .long k_4, .int k_5, .int k_6, .int k_7, .int k_8, .ref a_6, .ref a_7, .ref a_8, .ref a_9, .ref a_10, .ref a_11, .ref a_12, .ref a_13, .ref a_14, .ref a_15, .ref a_16, .ref a_17, .ref a_18, .int k_9, .int k_10, .int k_11, .int k_12, .int k_13, .int k_14, .ref a_19, .int k_15, .ref a_20])), (a_5, .inl (cy 0, 600, .inl n11))] H) (hD : va_D A [(a_0, .inr (12, [.int 0, .ref a_1, .ref a_2, .ref a_3, .ref a_4, .ref a_5, .int 20, .int k_0, .int k_1, .int k_2, .int k_3, .long k_4, .int k_5, .int k_6, .int k_7, .int k_8, .ref a_6, .ref a_7, .ref a_8, .ref a_9, .ref a_10, .ref a_11, .ref a_12, .ref a_13, .ref a_14, .ref a_15, .ref a_16, .ref a_17, .ref a_18, .int k_9, .int k_10, .int k_11, .int k_12, .int k_13, .int k_14, .ref a_19, .int k_15, .ref a_20])), (a_5, .inl (cy 0, 600, .inl n11))]) hS
    have w12 := hw
    refine lv_aload_n hx hb dX12_feed_47 rfl (lv_at hl 0 rfl) ?_
    refine va_get (D := G) (ci := 12) (v := .int 20) (C := RX12) (T := TX12) (N := 38) hx hb hts (mm_i inlX12) hown hK.1 hP 0 rfl rfl 6 (by decide) (mm_h hts mm_w178) (fun _ h9 => h9) rfl dX12_feed_48 ?_
    subst hAe
    rw [hQ]
    exact W.iret (v := 20) hx hb hr (fun t ht hW => ⟨⟨20, n11, rfl, ⟨w12, rfl⟩, by rw [ht]; exact hP, hK.warm hW, hD⟩, hS.F ht⟩) hS.2.2 dX12_feed_51
  · have q13 := mm_ltL (h := 19) (mm_nle c2) mm_k600 mm_k20 (by decide)
    exact mm_no q13 (by decide)

set_option maxHeartbeats 4000000 in
set_option maxRecDepth 100000 in
theorem K31_X11_end (l : Launch) (G : va_G) (cy : Nat → ClassId) (sz : Nat) (a_0 : Nat) (i_0 : Int32) (a_1 : Nat) (a_2 : Nat) (a_3 : Nat) (a_4 : Nat) (a_5 : Nat) (a_6 : Nat) (a_7 : Nat) (a_8 : Nat) (a_9 : Nat) (a_10 : Nat) (a_11 : Nat) (a_12 : Nat)   : mm_CI l yX11_end (mm_ws yX11_end cX11_end 2 (some .int)) ({ frames := 0, cells := 0, slots := 0, locals := 0 } : Room) G cy sz [(a_0, .inr (11, [.ref a_1, .ref a_2, .ref a_3, .ref a_4, .ref a_5, .ref a_6, .ref a_7, .ref a_8, .ref a_9, .ref a_10, .ref a_11])), (a_1, .inr (9, [.ref a_12, .int 0]))] [.ref a_0, .int i_0] (fun u : Int32 => [(a_0, .inr (11, [.ref a_1, .ref a_2, .ref a_3, .ref a_4, .ref a_5, .ref a_6, .ref a_7, .ref a_8, .ref a_9, .ref a_10, .ref a_11])), (a_1, .inr (9, [.ref a_12, .int u]))]) (fun (r : Int32) (u : Int32) => mm_rg u 0 0 ∧ (((-1) = r ∧ mm_rg i_0 (-2147483648) (-1)) ∨ (0 = r ∧ mm_rg i_0 0 0) ∨ ((-1) = r ∧ mm_rg i_0 1 2147483647))) 0 0 := by
  refine mm_begin (lv := [(0, .ref a_0), (1, .int i_0)]) (by decide) (Nat.le_of_ble_eq_true rfl) rfl ?_
  intro p e s m below meth c A ls R args Q H locs hRe hQ hAe hx hb hr hlocks hml hown hnm hts hsz hA hS hP hK hD hl
  have hRf : R.frames = 0 := by rw [hRe]
  have hRl : R.locals = 0 := by rw [hRe]
  have hRc : R.cells = 0 := by rw [hRe]
  have hRs : R.slots = 0 := by rw [hRe]
  refine lv_iload_n hx hb dX11_end_0 rfl (lv_at hl 1 rfl) ?_
  refine lv_if_lt (tgt := 15) hx hb dX11_end_1 (by decide) (fun c1 => ?_) (fun c1 => ?_)
  · have q2 := mm_ltL (h := (-1)) (mm_lt c1) (mm_top i_0) mm_k0 (by decide)
    refine lv_iconst (v := (-1)) hx hb dX11_end_15 (by decide) ?_
    subst hAe
    rw [hQ]
    exact W.iret (v := (-1)) hx hb hr (fun t ht hW => ⟨⟨(-1), 0, rfl, ⟨mm_k0, (Or.inl ⟨rfl, q2⟩)⟩, by rw [ht]; exact hP, hK.warm hW, hD⟩, hS.F ht⟩) hS.2.2 dX11_end_16
  · have q3 := mm_leR (mm_nlt c1) mm_k0 (mm_top i_0)
    refine lv_iload_n hx hb dX11_end_4 rfl (lv_at hl 1 rfl) ?_
    refine lv_aload_n hx hb dX11_end_5 rfl (lv_at hl 0 rfl) ?_
    refine va_get (D := G) (ci := 11) (v := .ref a_1) (C := RX11) (T := TX11) (N := 11) hx hb hts (mm_i inlX11) hown hK.1 hP 0 rfl rfl 0 (by decide) (mm_h hts mm_w16) (fun _ h9 => h9) rfl dX11_end_6 ?_
    refine va_get (D := G) (ci := 9) (v := .int 0) (C := RX9) (T := TX9) (N := 2) hx hb hts (mm_i inlX9) hown hK.1 hP 1 rfl rfl 1 (by decide) (mm_h hts mm_w167) (fun _ h9 => h9) rfl dX11_end_9 ?_
    refine lv_icmp_le (tgt := 17) hx hb dX11_end_12 (by decide) (fun c4 => ?_) (fun c4 => ?_)
    · have q5 := mm_leL (mm_le c4) q3 mm_k0
      refine lv_aload_n hx hb dX11_end_17 rfl (lv_at hl 0 rfl) ?_
      refine va_get (D := G) (ci := 11) (v := .ref a_1) (C := RX11) (T := TX11) (N := 11) hx hb hts (mm_i inlX11) hown hK.1 hP 0 rfl rfl 0 (by decide) (mm_h hts mm_w16) (fun _ h9 => h9) rfl dX11_end_18 ?_
      refine lv_iload_n hx hb dX11_end_21 rfl (lv_at hl 1 rfl) ?_
      refine va_put (D := G) (ci := 9) (v := .int i_0) (ty := tyX9 1) (C := RX9) (T := TX9) (N := 2) hx hb hts (mm_i inlX9) tyX9 tyX9_ok nmX9 hown hK.1 hP hD hS 1 rfl rfl 1 (by decide) (mm_h hts mm_w167) (fun _ h9 => h9) rfl (tyX9_ok 1 (by decide)) rfl rfl (Nat.le_of_ble_eq_true rfl) dX11_end_22 ?_
      clear hP hD hS
      clear H locs
      intro H locs (hP : va_P G vwCl [(a_0, .inr (11, [.ref a_1, .ref a_2, .ref a_3, .ref a_4, .ref a_5, .ref a_6, .ref a_7, .ref a_8, .ref a_9, .ref a_10, .ref a_11])), (a_1, .inr (9, [.ref a_12, .int i_0]))] H) (hD : va_D A [(a_0, .inr (11, [.ref a_1, .ref a_2, .ref a_3, .ref a_4, .ref a_5, .ref a_6, .ref a_7, .ref a_8, .ref a_9, .ref a_10, .ref a_11])), (a_1, .inr (9, [.ref a_12, .int i_0]))]) hS
      refine lv_iload_n hx hb dX11_end_25 rfl (lv_at hl 1 rfl) ?_
      subst hAe
      rw [hQ]
      exact W.iret (v := i_0) hx hb hr (fun t ht hW => ⟨⟨i_0, i_0, rfl, ⟨q5, (Or.inr (Or.inl ⟨(mm_eqC mm_k0 q5 (by decide)), q5⟩))⟩, by rw [ht]; exact hP, hK.warm hW, hD⟩, hS.F ht⟩) hS.2.2 dX11_end_26
    · have q6 := mm_ltR (lo := 1) (mm_nle c4) mm_k0 q3 (by decide)
      refine lv_iconst (v := (-1)) hx hb dX11_end_15 (by decide) ?_
      subst hAe
      rw [hQ]
      exact W.iret (v := (-1)) hx hb hr (fun t ht hW => ⟨⟨(-1), 0, rfl, ⟨mm_k0, (Or.inr (Or.inr ⟨rfl, q6⟩))⟩, by rw [ht]; exact hP, hK.warm hW, hD⟩, hS.F ht⟩) hS.2.2 dX11_end_16

set_option maxHeartbeats 4000000 in
set_option maxRecDepth 100000 in
theorem K32_X12_in (l : Launch) (G : va_G) (cy : Nat → ClassId) (sz : Nat) (j_0 : Int64) (h0 : mm_rl j_0 (-2147483648) 2147483647)  : mm_CI l yX12_in (mm_ws yX12_in cX12_in 6 (some .boolean)) ({ frames := 0, cells := 0, slots := 0, locals := 0 } : Room) G cy sz [] [.long j_0, .long 0, .long 0] (fun u : Unit => []) (fun (r : Int32) (u : Unit) => ((0 = r ∧ mm_rl j_0 (-2147483648) (-1)) ∨ (0 = r ∧ mm_rl j_0 1 2147483647) ∨ (1 = r ∧ mm_rl j_0 0 0))) 0 0 := by
  refine mm_begin (lv := [(0, .long j_0), (2, .long 0), (4, .long 0)]) (by decide) (Nat.le_of_ble_eq_true rfl) rfl ?_
  intro p e s m below meth c A ls R args Q H locs hRe hQ hAe hx hb hr hlocks hml hown hnm hts hsz hA hS hP hK hD hl
  have hRf : R.frames = 0 := by rw [hRe]
  have hRl : R.locals = 0 := by rw [hRe]
  have hRc : R.cells = 0 := by rw [hRe]
  have hRs : R.slots = 0 := by rw [hRe]
  refine lv_lload_n hx hb dX12_in_0 rfl (lv_at hl 0 rfl) ?_
  refine lv_lload_n hx hb dX12_in_1 rfl (lv_at hl 1 rfl) ?_
  refine W.lcmp hx hb dX12_in_2 ?_
  refine lv_topi (fun v1 ev1 => ?_)
  refine lv_if_lt (tgt := 17) hx hb dX12_in_3 (by decide) (fun c2 => ?_) (fun c2 => ?_)
  · have q3 := mm_ltLl (h := (-1)) (mm_cmp_lt ev1 c2) h0 mm_kl0 (by decide)
    refine lv_iconst (v := 0) hx hb dX12_in_17 (by decide) ?_
    subst hAe
    rw [hQ]
    exact W.zret (v := 0) hx hb hr rfl (fun t ht hW => ⟨⟨0, (), rfl, (Or.inl ⟨rfl, q3⟩), by rw [ht]; exact hP, hK.warm hW, hD⟩, hS.F ht⟩) hS.2.2 dX12_in_18
  · have q4 := mm_leRl (mm_cmp_ge ev1 (mm_n_lt c2)) mm_kl0 h0
    refine lv_lload_n hx hb dX12_in_6 rfl (lv_at hl 0 rfl) ?_
    refine lv_lload hx hb dX12_in_7 (lv_at hl 2 rfl) ?_
    refine W.lcmp hx hb dX12_in_9 ?_
    refine lv_topi (fun v5 ev5 => ?_)
    refine lv_if_gt (tgt := 17) hx hb dX12_in_10 (by decide) (fun c6 => ?_) (fun c6 => ?_)
    · have q7 := mm_ltRl (lo := 1) (mm_cmp_gt ev5 c6) mm_kl0 q4 (by decide)
      refine lv_iconst (v := 0) hx hb dX12_in_17 (by decide) ?_
      subst hAe
      rw [hQ]
      exact W.zret (v := 0) hx hb hr rfl (fun t ht hW => ⟨⟨0, (), rfl, (Or.inr (Or.inl ⟨rfl, q7⟩)), by rw [ht]; exact hP, hK.warm hW, hD⟩, hS.F ht⟩) hS.2.2 dX12_in_18
    · have q8 := mm_leLl (mm_cmp_le ev5 (mm_n_gt c6)) q4 mm_kl0
      refine lv_iconst (v := 1) hx hb dX12_in_13 (by decide) ?_
      refine lv_goto (tgt := 18) hx hb dX12_in_14 (by decide) ?_
      subst hAe
      rw [hQ]
      exact W.zret (v := 1) hx hb hr rfl (fun t ht hW => ⟨⟨1, (), rfl, (Or.inr (Or.inr ⟨rfl, q8⟩)), by rw [ht]; exact hP, hK.warm hW, hD⟩, hS.F ht⟩) hS.2.2 dX12_in_18

set_option maxHeartbeats 4000000 in
set_option maxRecDepth 100000 in
theorem K33_X12_end (l : Launch) (G : va_G) (cy : Nat → ClassId) (sz : Nat) (a_0 : Nat) (i_0 : Int32) (a_1 : Nat) (a_2 : Nat) (a_3 : Nat) (a_4 : Nat) (a_5 : Nat) (k_0 : Int32) (k_1 : Int32) (k_2 : Int32) (k_3 : Int32) (k_4 : Int64) (k_5 : Int32) (k_6 : Int32) (k_7 : Int32) (k_8 : Int32) (a_6 : Nat) (a_7 : Nat) (a_8 : Nat) (a_9 : Nat) (a_10 : Nat) (a_11 : Nat) (a_12 : Nat) (a_13 : Nat) (a_14 : Nat) (a_15 : Nat) (a_16 : Nat) (a_17 : Nat) (a_18 : Nat) (k_9 : Int32) (k_10 : Int32) (k_11 : Int32) (k_12 : Int32) (k_13 : Int32) (k_14 : Int32) (a_19 : Nat) (k_15 : Int32) (a_20 : Nat)   : mm_CI l yX12_end (mm_ws yX12_end cX12_end 2 (some .int)) ({ frames := 1, cells := 0, slots := 0, locals := 25 } : Room) G cy sz [(a_0, .inr (12, [.int 0, .ref a_1, .ref a_2, .ref a_3, .ref a_4, .ref a_5, .int 0, .int k_0, .int k_1, .int k_2, .int k_3, .long k_4, .int k_5, .int k_6, .int k_7, .int k_8, .ref a_6, .ref a_7, .ref a_8, .ref a_9, .ref a_10, .ref a_11, .ref a_12, .ref a_13, .ref a_14, .ref a_15, .ref a_16, .ref a_17, .ref a_18, .int k_9, .int k_10, .int k_11, .int k_12, .int k_13, .int k_14, .ref a_19, .int k_15, .ref a_20]))] [.ref a_0, .int i_0] (fun u : Int32 => [(a_0, .inr (12, [.int 0, .ref a_1, .ref a_2, .ref a_3, .ref a_4, .ref a_5, .int u, .int k_0, .int k_1, .int k_2, .int k_3, .long k_4, .int k_5, .int k_6, .int k_7, .int k_8, .ref a_6, .ref a_7, .ref a_8, .ref a_9, .ref a_10, .ref a_11, .ref a_12, .ref a_13, .ref a_14, .ref a_15, .ref a_16, .ref a_17, .ref a_18, .int k_9, .int k_10, .int k_11, .int k_12, .int k_13, .int k_14, .ref a_19, .int k_15, .ref a_20]))]) (fun (r : Int32) (u : Int32) => mm_rg u 0 0 ∧ (((-1) = r ∧ mm_rg i_0 (-2147483648) (-1)) ∨ ((-1) = r ∧ mm_rg i_0 1 2147483647) ∨ (0 = r ∧ mm_rg i_0 0 0))) 0 0 := by
  refine mm_begin (lv := [(0, .ref a_0), (1, .int i_0)]) (by decide) (Nat.le_of_ble_eq_true rfl) rfl ?_
  intro p e s m below meth c A ls R args Q H locs hRe hQ hAe hx hb hr hlocks hml hown hnm hts hsz hA hS hP hK hD hl
  have hRf : R.frames = 1 := by rw [hRe]
  have hRl : R.locals = 25 := by rw [hRe]
  have hRc : R.cells = 0 := by rw [hRe]
  have hRs : R.slots = 0 := by rw [hRe]
  refine lv_aload_n hx hb dX12_end_0 rfl (lv_at hl 0 rfl) ?_
  refine lv_iconst (v := 0) hx hb dX12_end_1 (by decide) ?_
  refine va_put (D := G) (ci := 12) (v := .int 0) (ty := tyX12 0) (C := RX12) (T := TX12) (N := 38) hx hb hts (mm_i inlX12) tyX12 tyX12_ok nmX12 hown hK.1 hP hD hS 0 rfl rfl 0 (by decide) (mm_h hts mm_w177) (fun _ h9 => h9) rfl (tyX12_ok 0 (by decide)) rfl rfl (Nat.le_of_ble_eq_true rfl) dX12_end_2 ?_
  clear hP hD hS
  clear H locs
  intro H locs (hP : va_P G vwCl [(a_0, .inr (12, [.int 0, .ref a_1, .ref a_2, .ref a_3, .ref a_4, .ref a_5, .int 0, .int k_0, .int k_1, .int k_2, .int k_3, .long k_4, .int k_5, .int k_6, .int k_7, .int k_8, .ref a_6, .ref a_7, .ref a_8, .ref a_9, .ref a_10, .ref a_11, .ref a_12, .ref a_13, .ref a_14, .ref a_15, .ref a_16, .ref a_17, .ref a_18, .int k_9, .int k_10, .int k_11, .int k_12, .int k_13, .int k_14, .ref a_19, .int k_15, .ref a_20]))] H) (hD : va_D A [(a_0, .inr (12, [.int 0, .ref a_1, .ref a_2, .ref a_3, .ref a_4, .ref a_5, .int 0, .int k_0, .int k_1, .int k_2, .int k_3, .long k_4, .int k_5, .int k_6, .int k_7, .int k_8, .ref a_6, .ref a_7, .ref a_8, .ref a_9, .ref a_10, .ref a_11, .ref a_12, .ref a_13, .ref a_14, .ref a_15, .ref a_16, .ref a_17, .ref a_18, .int k_9, .int k_10, .int k_11, .int k_12, .int k_13, .int k_14, .ref a_19, .int k_15, .ref a_20]))]) hS
  refine lv_iload_n hx hb dX12_end_5 rfl (lv_at hl 1 rfl) ?_
  obtain ⟨v1, ev1⟩ : ∃ y : Int64, y = i_0.toInt64 := ⟨_, rfl⟩
  refine lv_i2l hx hb dX12_end_6 ev1.symm ?_
  have rv1 : mm_rl v1 (-2147483648) 2147483647 := mm_i2l ev1 (mm_top i_0)
  refine lv_lconst (v := 0) hx hb dX12_end_7 (by decide) ?_
  refine lv_aload_n hx hb dX12_end_8 rfl (lv_at hl 0 rfl) ?_
  refine va_get (D := G) (ci := 12) (v := .int 0) (C := RX12) (T := TX12) (N := 38) hx hb hts (mm_i inlX12) hown hK.1 hP 0 rfl rfl 6 (by decide) (mm_h hts mm_w178) (fun _ h9 => h9) rfl dX12_end_9 ?_
  refine lv_i2l (v := 0) hx hb dX12_end_12 (by decide) ?_
  refine mm_finir (va_runS (As := [.long v1, .long 0, .long 0]) (rest := []) ⟨hx, hb, hml, hown, hts⟩ (K32_X12_in l G cy H.size v1 rv1) (va_cwS 3 hts (mm_gS mm_w191 mm_w192 mm_w5 mm_w193) rfl rfl rfl hs_X12_in ⟨by rw [hRf]; exact Nat.le_of_ble_eq_true rfl, by rw [hRl]; exact Nat.le_of_ble_eq_true rfl⟩) (mm_preS hK hP hD [] rfl rfl) rfl rfl hl.1 rfl (lv_room (Nat.le_of_ble_eq_true rfl)) dX12_end_13 ⟨by rw [hRc]; exact Nat.le_of_ble_eq_true rfl, by rw [hRs]; exact Nat.le_of_ble_eq_true rfl⟩) hP hD hS hA [] rfl (fun _ => rfl) ?_
  clear hP hD hS
  clear H locs
  intro v2 _u H locs hw hP hD hS
  rcases hw with ⟨rfl, w3⟩ | ⟨rfl, w4⟩ | ⟨rfl, w5⟩
  · have q6 := mm_meet (lo := (-2147483648)) (hi := (-1)) (mm_l2x ev1 w3) (mm_top i_0) (by decide)
    refine lv_if_ne (tgt := 21) hx hb dX12_end_16 (by decide) (fun c7 => ?_) (fun c7 => ?_)
    · have q8 := mm_neL (lo := 1) (mm_ne c7) mm_k0 mm_k0 (by decide) (by decide)
      exact mm_no q8 (by decide)
    · refine lv_iconst (v := (-1)) hx hb dX12_end_19 (by decide) ?_
      subst hAe
      rw [hQ]
      exact W.iret (v := (-1)) hx hb hr (fun t ht hW => ⟨⟨(-1), 0, rfl, ⟨mm_k0, (Or.inl ⟨rfl, q6⟩)⟩, by rw [ht]; exact hP, hK.warm hW, hD⟩, hS.F ht⟩) hS.2.2 dX12_end_20
  · have q9 := mm_meet (lo := 1) (hi := 2147483647) (mm_l2x ev1 w4) (mm_top i_0) (by decide)
    refine lv_if_ne (tgt := 21) hx hb dX12_end_16 (by decide) (fun c10 => ?_) (fun c10 => ?_)
    · have q11 := mm_neL (lo := 1) (mm_ne c10) mm_k0 mm_k0 (by decide) (by decide)
      exact mm_no q11 (by decide)
    · refine lv_iconst (v := (-1)) hx hb dX12_end_19 (by decide) ?_
      subst hAe
      rw [hQ]
      exact W.iret (v := (-1)) hx hb hr (fun t ht hW => ⟨⟨(-1), 0, rfl, ⟨mm_k0, (Or.inr (Or.inl ⟨rfl, q9⟩))⟩, by rw [ht]; exact hP, hK.warm hW, hD⟩, hS.F ht⟩) hS.2.2 dX12_end_20
  · have q12 := mm_meet (lo := 0) (hi := 0) (mm_l2x ev1 w5) (mm_top i_0) (by decide)
    refine lv_if_ne (tgt := 21) hx hb dX12_end_16 (by decide) (fun c13 => ?_) (fun c13 => ?_)
    · refine lv_aload_n hx hb dX12_end_21 rfl (lv_at hl 0 rfl) ?_
      refine lv_iload_n hx hb dX12_end_22 rfl (lv_at hl 1 rfl) ?_
      refine va_put (D := G) (ci := 12) (v := .int i_0) (ty := tyX12 6) (C := RX12) (T := TX12) (N := 38) hx hb hts (mm_i inlX12) tyX12 tyX12_ok nmX12 hown hK.1 hP hD hS 0 rfl rfl 6 (by decide) (mm_h hts mm_w178) (fun _ h9 => h9) rfl (tyX12_ok 6 (by decide)) rfl rfl (Nat.le_of_ble_eq_true rfl) dX12_end_23 ?_
      clear hP hD hS
      clear H locs
      intro H locs (hP : va_P G vwCl [(a_0, .inr (12, [.int 0, .ref a_1, .ref a_2, .ref a_3, .ref a_4, .ref a_5, .int i_0, .int k_0, .int k_1, .int k_2, .int k_3, .long k_4, .int k_5, .int k_6, .int k_7, .int k_8, .ref a_6, .ref a_7, .ref a_8, .ref a_9, .ref a_10, .ref a_11, .ref a_12, .ref a_13, .ref a_14, .ref a_15, .ref a_16, .ref a_17, .ref a_18, .int k_9, .int k_10, .int k_11, .int k_12, .int k_13, .int k_14, .ref a_19, .int k_15, .ref a_20]))] H) (hD : va_D A [(a_0, .inr (12, [.int 0, .ref a_1, .ref a_2, .ref a_3, .ref a_4, .ref a_5, .int i_0, .int k_0, .int k_1, .int k_2, .int k_3, .long k_4, .int k_5, .int k_6, .int k_7, .int k_8, .ref a_6, .ref a_7, .ref a_8, .ref a_9, .ref a_10, .ref a_11, .ref a_12, .ref a_13, .ref a_14, .ref a_15, .ref a_16, .ref a_17, .ref a_18, .int k_9, .int k_10, .int k_11, .int k_12, .int k_13, .int k_14, .ref a_19, .int k_15, .ref a_20]))]) hS
      refine lv_iload_n hx hb dX12_end_26 rfl (lv_at hl 1 rfl) ?_
      subst hAe
      rw [hQ]
      exact W.iret (v := i_0) hx hb hr (fun t ht hW => ⟨⟨i_0, i_0, rfl, ⟨q12, (Or.inr (Or.inr ⟨(mm_eqC mm_k0 q12 (by decide)), q12⟩))⟩, by rw [ht]; exact hP, hK.warm hW, hD⟩, hS.F ht⟩) hS.2.2 dX12_end_27
    · exact mm_eqN c13.symm mm_k0 mm_k1 (by decide)

set_option maxHeartbeats 4000000 in
set_option maxRecDepth 100000 in
theorem K34_J7_fill_53178 (l : Launch) (G : va_G) (cy : Nat → ClassId) (sz : Nat) (a_0 : Nat)   : mm_CV l yJ7_fill_53178 (mm_ws yJ7_fill_53178 cJ7_fill_53178 4 (none)) ({ frames := 0, cells := 0, slots := 0, locals := 0 } : Room) G cy sz [(a_0, .inl (cy 1, 3, .inl (fun _ => 0)))] [.ref a_0, .int 0] (fun u : (Nat → Int32) => [(a_0, .inl (cy 1, 3, .inl u))]) (fun u : (Nat → Int32) => mm_ar u 0 0) 0 0 := by
  refine mm_begin (lv := [(0, .ref a_0), (1, .int 0)]) (by decide) (Nat.le_of_ble_eq_true rfl) rfl ?_
  intro p e s m below meth c A ls R args Q H locs hRe hQ hAe hx hb hr hlocks hml hown hnm hts hsz hA hS hP hK hD hl
  have hRf : R.frames = 0 := by rw [hRe]
  have hRl : R.locals = 0 := by rw [hRe]
  have hRc : R.cells = 0 := by rw [hRe]
  have hRs : R.slots = 0 := by rw [hRe]
  refine lv_iconst (v := 0) hx hb dJ7_fill_53178_0 (by decide) ?_
  refine lv_istore_n (lv' := [(2, .int 0), (0, .ref a_0), (1, .int 0)]) hx hb dJ7_fill_53178_1 rfl hl (by decide) rfl ?_
  clear hl
  clear ls
  intro ls hl
  refine lv_aload_n hx hb dJ7_fill_53178_2 rfl (lv_at hl 1 rfl) ?_
  refine va_alen (v := 3) hx hb hK.1 hP 0 1 rfl rfl rfl dJ7_fill_53178_3 ?_
  refine lv_istore_n (lv' := [(3, .int 3), (2, .int 0), (0, .ref a_0), (1, .int 0)]) hx hb dJ7_fill_53178_4 rfl hl (by decide) rfl ?_
  clear hl
  clear ls
  intro ls hl
  have L5_27 : ∀ (n : Nat) (x5_2_26 : Int32) (z5_0_27 : Nat → Int32), mm_rg x5_2_26 0 3 → mm_ar z5_0_27 0 0 → (3 - x5_2_26.toInt).toNat < n → ∀ (H : Heap) (locs : List Loc), va_P G vwCl [(a_0, .inl (cy 1, 3, .inl z5_0_27))] H → va_D A [(a_0, .inl (cy 1, 3, .inl z5_0_27))] → va_S A s.heap H locs → ∀ (ls : Array Slot), lv_has ls 4 [(3, .int 3), (2, .int x5_2_26), (0, .ref a_0), (1, .int 0)] → W p l e R s m args below meth c H locs 0 0 Q (F0 m 5 ls []) := by
    intro n
    induction n with
    | zero => intro x5_2_26 z5_0_27 rx5_2_26 rz5_0_27 hm; exact absurd hm (Nat.not_lt_zero _)
    | succ n ih5 =>
      intro x5_2_26 z5_0_27 rx5_2_26 rz5_0_27 hm5 H locs hP hD hS ls hl
      refine lv_iload_n hx hb dJ7_fill_53178_5 rfl (lv_at hl 1 rfl) ?_
      refine lv_iload_n hx hb dJ7_fill_53178_6 rfl (lv_at hl 0 rfl) ?_
      refine lv_icmp_ge (tgt := 20) hx hb dJ7_fill_53178_7 (by decide) (fun c29 => ?_) (fun c29 => ?_)
      · have q30 := mm_leR (mm_le c29) mm_k3 rx5_2_26
        subst hAe
        rw [hQ]
        exact W.vret hx hb hr (fun t ht hW => ⟨⟨z5_0_27, rfl, rz5_0_27, by rw [ht]; exact hP, hK.warm hW, hD⟩, hS.F ht⟩) hS.2.2 dJ7_fill_53178_20
      · have q31 := mm_ltL (h := 2) (mm_nle c29) rx5_2_26 mm_k3 (by decide)
        refine lv_aload_n hx hb dJ7_fill_53178_10 rfl (lv_at hl 2 rfl) ?_
        refine lv_iload_n hx hb dJ7_fill_53178_11 rfl (lv_at hl 1 rfl) ?_
        refine lv_iload_n hx hb dJ7_fill_53178_12 rfl (lv_at hl 3 rfl) ?_
        refine va_iast hx hb hK.1 hP hD hS 0 1 rfl rfl (mm_in q31 (by decide)) dJ7_fill_53178_13 ?_
        clear hP hD hS
        clear H locs
        obtain ⟨g32, eg32⟩ : ∃ z : Nat → Int32, z = upd z5_0_27 x5_2_26.toNatClampNeg 0 := ⟨_, rfl⟩
        rw [← eg32]
        intro H locs (hP : va_P G vwCl [(a_0, .inl (cy 1, 3, .inl g32))] H) (hD : va_D A [(a_0, .inl (cy 1, 3, .inl g32))]) hS
        have rg32 : mm_ar g32 0 0 := by rw [eg32]; exact mm_ar_upd (mm_ar_wk rz5_0_27 (by decide)) (mm_wk mm_k0 (by decide)) _
        obtain ⟨v33, ev33⟩ : ∃ y : Int32, y = x5_2_26 + 1 := ⟨_, rfl⟩
        refine lv_iinc (v := v33) (lv' := [(2, .int v33), (3, .int 3), (0, .ref a_0), (1, .int 0)]) hx hb dJ7_fill_53178_14 hl (k := 1) rfl (by rw [ev33]; rfl) (by decide) rfl ?_
        clear hl
        clear ls
        intro ls hl
        have rv33 : mm_rg v33 1 3 := mm_add ev33 q31 mm_k1 (by decide) (by decide)
        have tv33 := mm_addE ev33 q31 mm_k1 (by decide)
        refine lv_goto (tgt := 5) hx hb dJ7_fill_53178_17 (by decide) ?_
        exact ih5 v33 g32 (mm_wk rv33 (by decide)) rg32 (mm_mu hm5 tv33 (by decide) (rv33).2 (by decide)) H locs hP hD hS ls (lv_sub hl [1, 0, 2, 3] rfl)
  exact L5_27 _ 0 (fun _ => 0) (mm_wk mm_k0 (by decide)) (mm_ar_c mm_k0) (Nat.lt_succ_self _) H locs hP hD hS ls (lv_sub hl [0, 1, 2, 3] rfl)

set_option maxHeartbeats 4000000 in
set_option maxRecDepth 100000 in
theorem K35_J7_fill_53178 (l : Launch) (G : va_G) (cy : Nat → ClassId) (sz : Nat) (a_0 : Nat)   : mm_CV l yJ7_fill_53178 (mm_ws yJ7_fill_53178 cJ7_fill_53178 4 (none)) ({ frames := 0, cells := 0, slots := 0, locals := 0 } : Room) G cy sz [(a_0, .inl (cy 1, 6, .inl (fun _ => 0)))] [.ref a_0, .int 0] (fun u : (Nat → Int32) => [(a_0, .inl (cy 1, 6, .inl u))]) (fun u : (Nat → Int32) => mm_ar u 0 0) 0 0 := by
  refine mm_begin (lv := [(0, .ref a_0), (1, .int 0)]) (by decide) (Nat.le_of_ble_eq_true rfl) rfl ?_
  intro p e s m below meth c A ls R args Q H locs hRe hQ hAe hx hb hr hlocks hml hown hnm hts hsz hA hS hP hK hD hl
  have hRf : R.frames = 0 := by rw [hRe]
  have hRl : R.locals = 0 := by rw [hRe]
  have hRc : R.cells = 0 := by rw [hRe]
  have hRs : R.slots = 0 := by rw [hRe]
  refine lv_iconst (v := 0) hx hb dJ7_fill_53178_0 (by decide) ?_
  refine lv_istore_n (lv' := [(2, .int 0), (0, .ref a_0), (1, .int 0)]) hx hb dJ7_fill_53178_1 rfl hl (by decide) rfl ?_
  clear hl
  clear ls
  intro ls hl
  refine lv_aload_n hx hb dJ7_fill_53178_2 rfl (lv_at hl 1 rfl) ?_
  refine va_alen (v := 6) hx hb hK.1 hP 0 1 rfl rfl rfl dJ7_fill_53178_3 ?_
  refine lv_istore_n (lv' := [(3, .int 6), (2, .int 0), (0, .ref a_0), (1, .int 0)]) hx hb dJ7_fill_53178_4 rfl hl (by decide) rfl ?_
  clear hl
  clear ls
  intro ls hl
  have L5_27 : ∀ (n : Nat) (x5_2_26 : Int32) (z5_0_27 : Nat → Int32), mm_rg x5_2_26 0 6 → mm_ar z5_0_27 0 0 → (6 - x5_2_26.toInt).toNat < n → ∀ (H : Heap) (locs : List Loc), va_P G vwCl [(a_0, .inl (cy 1, 6, .inl z5_0_27))] H → va_D A [(a_0, .inl (cy 1, 6, .inl z5_0_27))] → va_S A s.heap H locs → ∀ (ls : Array Slot), lv_has ls 4 [(3, .int 6), (2, .int x5_2_26), (0, .ref a_0), (1, .int 0)] → W p l e R s m args below meth c H locs 0 0 Q (F0 m 5 ls []) := by
    intro n
    induction n with
    | zero => intro x5_2_26 z5_0_27 rx5_2_26 rz5_0_27 hm; exact absurd hm (Nat.not_lt_zero _)
    | succ n ih5 =>
      intro x5_2_26 z5_0_27 rx5_2_26 rz5_0_27 hm5 H locs hP hD hS ls hl
      refine lv_iload_n hx hb dJ7_fill_53178_5 rfl (lv_at hl 1 rfl) ?_
      refine lv_iload_n hx hb dJ7_fill_53178_6 rfl (lv_at hl 0 rfl) ?_
      refine lv_icmp_ge (tgt := 20) hx hb dJ7_fill_53178_7 (by decide) (fun c29 => ?_) (fun c29 => ?_)
      · have q30 := mm_leR (mm_le c29) mm_k6 rx5_2_26
        subst hAe
        rw [hQ]
        exact W.vret hx hb hr (fun t ht hW => ⟨⟨z5_0_27, rfl, rz5_0_27, by rw [ht]; exact hP, hK.warm hW, hD⟩, hS.F ht⟩) hS.2.2 dJ7_fill_53178_20
      · have q31 := mm_ltL (h := 5) (mm_nle c29) rx5_2_26 mm_k6 (by decide)
        refine lv_aload_n hx hb dJ7_fill_53178_10 rfl (lv_at hl 2 rfl) ?_
        refine lv_iload_n hx hb dJ7_fill_53178_11 rfl (lv_at hl 1 rfl) ?_
        refine lv_iload_n hx hb dJ7_fill_53178_12 rfl (lv_at hl 3 rfl) ?_
        refine va_iast hx hb hK.1 hP hD hS 0 1 rfl rfl (mm_in q31 (by decide)) dJ7_fill_53178_13 ?_
        clear hP hD hS
        clear H locs
        obtain ⟨g32, eg32⟩ : ∃ z : Nat → Int32, z = upd z5_0_27 x5_2_26.toNatClampNeg 0 := ⟨_, rfl⟩
        rw [← eg32]
        intro H locs (hP : va_P G vwCl [(a_0, .inl (cy 1, 6, .inl g32))] H) (hD : va_D A [(a_0, .inl (cy 1, 6, .inl g32))]) hS
        have rg32 : mm_ar g32 0 0 := by rw [eg32]; exact mm_ar_upd (mm_ar_wk rz5_0_27 (by decide)) (mm_wk mm_k0 (by decide)) _
        obtain ⟨v33, ev33⟩ : ∃ y : Int32, y = x5_2_26 + 1 := ⟨_, rfl⟩
        refine lv_iinc (v := v33) (lv' := [(2, .int v33), (3, .int 6), (0, .ref a_0), (1, .int 0)]) hx hb dJ7_fill_53178_14 hl (k := 1) rfl (by rw [ev33]; rfl) (by decide) rfl ?_
        clear hl
        clear ls
        intro ls hl
        have rv33 : mm_rg v33 1 6 := mm_add ev33 q31 mm_k1 (by decide) (by decide)
        have tv33 := mm_addE ev33 q31 mm_k1 (by decide)
        refine lv_goto (tgt := 5) hx hb dJ7_fill_53178_17 (by decide) ?_
        exact ih5 v33 g32 (mm_wk rv33 (by decide)) rg32 (mm_mu hm5 tv33 (by decide) (rv33).2 (by decide)) H locs hP hD hS ls (lv_sub hl [1, 0, 2, 3] rfl)
  exact L5_27 _ 0 (fun _ => 0) (mm_wk mm_k0 (by decide)) (mm_ar_c mm_k0) (Nat.lt_succ_self _) H locs hP hD hS ls (lv_sub hl [0, 1, 2, 3] rfl)

set_option maxHeartbeats 4000000 in
set_option maxRecDepth 100000 in
theorem K36_X0_wipe (l : Launch) (G : va_G) (cy : Nat → ClassId) (sz : Nat) (a_0 : Nat) (a_14 : Nat) (a_15 : Nat) (a_16 : Nat) (a_17 : Nat) (a_18 : Nat) (a_19 : Nat) (a_20 : Nat) (a_21 : Nat) (a_22 : Nat) (a_23 : Nat)   : mm_CV l yX0_wipe (mm_ws yX0_wipe cX0_wipe 2 (none)) ({ frames := 1, cells := 0, slots := 0, locals := 23 } : Room) G cy sz [(a_0, .inr (0, [.int 0, .int 0, .int 0, .int 0, .int 0, .int 0, .int 0, .int 0, .ref a_14, .ref a_15, .ref a_16, .ref a_17, .ref a_18, .ref a_19, .ref a_20, .ref a_21, .ref a_22, .ref a_23])), (a_16, .inl (cy 1, 3, .inl (fun _ => 0))), (a_18, .inl (cy 1, 6, .inl (fun _ => 0))), (a_20, .inl (cy 1, 30, .inl (fun _ => 0)))] [.ref a_0] (fun u : (Nat → Int32) × (Nat → Int32) × (Nat → Int32) => [(a_0, .inr (0, [.int 0, .int 0, .int 0, .int 0, .int 0, .int 0, .int 0, .int 0, .ref a_14, .ref a_15, .ref a_16, .ref a_17, .ref a_18, .ref a_19, .ref a_20, .ref a_21, .ref a_22, .ref a_23])), (a_16, .inl (cy 1, 3, .inl u.1)), (a_18, .inl (cy 1, 6, .inl u.2.1)), (a_20, .inl (cy 1, 30, .inl u.2.2))]) (fun u : (Nat → Int32) × (Nat → Int32) × (Nat → Int32) => mm_ar u.1 0 0 ∧ mm_ar u.2.1 0 0 ∧ mm_ar u.2.2 0 9) 0 0 := by
  refine mm_begin (lv := [(0, .ref a_0)]) (by decide) (Nat.le_of_ble_eq_true rfl) rfl ?_
  intro p e s m below meth c A ls R args Q H locs hRe hQ hAe hx hb hr hlocks hml hown hnm hts hsz hA hS hP hK hD hl
  have hRf : R.frames = 1 := by rw [hRe]
  have hRl : R.locals = 23 := by rw [hRe]
  have hRc : R.cells = 0 := by rw [hRe]
  have hRs : R.slots = 0 := by rw [hRe]
  refine lv_aload_n hx hb dX0_wipe_0 rfl (lv_at hl 0 rfl) ?_
  refine lv_iconst (v := 0) hx hb dX0_wipe_1 (by decide) ?_
  refine va_put (D := G) (ci := 0) (v := .int 0) (ty := tyX0 0) (C := RX0) (T := TX0) (N := 18) hx hb hts (mm_i inlX0) tyX0 tyX0_ok nmX0 hown hK.1 hP hD hS 0 rfl rfl 0 (by decide) (mm_h hts mm_w215) (fun _ h9 => h9) rfl (tyX0_ok 0 (by decide)) rfl rfl (Nat.le_of_ble_eq_true rfl) dX0_wipe_2 ?_
  clear hP hD hS
  clear H locs
  intro H locs (hP : va_P G vwCl [(a_0, .inr (0, [.int 0, .int 0, .int 0, .int 0, .int 0, .int 0, .int 0, .int 0, .ref a_14, .ref a_15, .ref a_16, .ref a_17, .ref a_18, .ref a_19, .ref a_20, .ref a_21, .ref a_22, .ref a_23])), (a_16, .inl (cy 1, 3, .inl (fun _ => 0))), (a_18, .inl (cy 1, 6, .inl (fun _ => 0))), (a_20, .inl (cy 1, 30, .inl (fun _ => 0)))] H) (hD : va_D A [(a_0, .inr (0, [.int 0, .int 0, .int 0, .int 0, .int 0, .int 0, .int 0, .int 0, .ref a_14, .ref a_15, .ref a_16, .ref a_17, .ref a_18, .ref a_19, .ref a_20, .ref a_21, .ref a_22, .ref a_23])), (a_16, .inl (cy 1, 3, .inl (fun _ => 0))), (a_18, .inl (cy 1, 6, .inl (fun _ => 0))), (a_20, .inl (cy 1, 30, .inl (fun _ => 0)))]) hS
  refine lv_aload_n hx hb dX0_wipe_5 rfl (lv_at hl 0 rfl) ?_
  refine lv_iconst (v := 0) hx hb dX0_wipe_6 (by decide) ?_
  refine va_put (D := G) (ci := 0) (v := .int 0) (ty := tyX0 1) (C := RX0) (T := TX0) (N := 18) hx hb hts (mm_i inlX0) tyX0 tyX0_ok nmX0 hown hK.1 hP hD hS 0 rfl rfl 1 (by decide) (mm_h hts mm_w216) (fun _ h9 => h9) rfl (tyX0_ok 1 (by decide)) rfl rfl (Nat.le_of_ble_eq_true rfl) dX0_wipe_7 ?_
  clear hP hD hS
  clear H locs
  intro H locs (hP : va_P G vwCl [(a_0, .inr (0, [.int 0, .int 0, .int 0, .int 0, .int 0, .int 0, .int 0, .int 0, .ref a_14, .ref a_15, .ref a_16, .ref a_17, .ref a_18, .ref a_19, .ref a_20, .ref a_21, .ref a_22, .ref a_23])), (a_16, .inl (cy 1, 3, .inl (fun _ => 0))), (a_18, .inl (cy 1, 6, .inl (fun _ => 0))), (a_20, .inl (cy 1, 30, .inl (fun _ => 0)))] H) (hD : va_D A [(a_0, .inr (0, [.int 0, .int 0, .int 0, .int 0, .int 0, .int 0, .int 0, .int 0, .ref a_14, .ref a_15, .ref a_16, .ref a_17, .ref a_18, .ref a_19, .ref a_20, .ref a_21, .ref a_22, .ref a_23])), (a_16, .inl (cy 1, 3, .inl (fun _ => 0))), (a_18, .inl (cy 1, 6, .inl (fun _ => 0))), (a_20, .inl (cy 1, 30, .inl (fun _ => 0)))]) hS
  refine lv_aload_n hx hb dX0_wipe_10 rfl (lv_at hl 0 rfl) ?_
  refine lv_iconst (v := 0) hx hb dX0_wipe_11 (by decide) ?_
  refine va_put (D := G) (ci := 0) (v := .int 0) (ty := tyX0 2) (C := RX0) (T := TX0) (N := 18) hx hb hts (mm_i inlX0) tyX0 tyX0_ok nmX0 hown hK.1 hP hD hS 0 rfl rfl 2 (by decide) (mm_h hts mm_w217) (fun _ h9 => h9) rfl (tyX0_ok 2 (by decide)) rfl rfl (Nat.le_of_ble_eq_true rfl) dX0_wipe_12 ?_
  clear hP hD hS
  clear H locs
  intro H locs (hP : va_P G vwCl [(a_0, .inr (0, [.int 0, .int 0, .int 0, .int 0, .int 0, .int 0, .int 0, .int 0, .ref a_14, .ref a_15, .ref a_16, .ref a_17, .ref a_18, .ref a_19, .ref a_20, .ref a_21, .ref a_22, .ref a_23])), (a_16, .inl (cy 1, 3, .inl (fun _ => 0))), (a_18, .inl (cy 1, 6, .inl (fun _ => 0))), (a_20, .inl (cy 1, 30, .inl (fun _ => 0)))] H) (hD : va_D A [(a_0, .inr (0, [.int 0, .int 0, .int 0, .int 0, .int 0, .int 0, .int 0, .int 0, .ref a_14, .ref a_15, .ref a_16, .ref a_17, .ref a_18, .ref a_19, .ref a_20, .ref a_21, .ref a_22, .ref a_23])), (a_16, .inl (cy 1, 3, .inl (fun _ => 0))), (a_18, .inl (cy 1, 6, .inl (fun _ => 0))), (a_20, .inl (cy 1, 30, .inl (fun _ => 0)))]) hS
  refine lv_aload_n hx hb dX0_wipe_15 rfl (lv_at hl 0 rfl) ?_
  refine lv_iconst (v := 0) hx hb dX0_wipe_16 (by decide) ?_
  refine va_put (D := G) (ci := 0) (v := .int 0) (ty := tyX0 3) (C := RX0) (T := TX0) (N := 18) hx hb hts (mm_i inlX0) tyX0 tyX0_ok nmX0 hown hK.1 hP hD hS 0 rfl rfl 3 (by decide) (mm_h hts mm_w218) (fun _ h9 => h9) rfl (tyX0_ok 3 (by decide)) rfl rfl (Nat.le_of_ble_eq_true rfl) dX0_wipe_17 ?_
  clear hP hD hS
  clear H locs
  intro H locs (hP : va_P G vwCl [(a_0, .inr (0, [.int 0, .int 0, .int 0, .int 0, .int 0, .int 0, .int 0, .int 0, .ref a_14, .ref a_15, .ref a_16, .ref a_17, .ref a_18, .ref a_19, .ref a_20, .ref a_21, .ref a_22, .ref a_23])), (a_16, .inl (cy 1, 3, .inl (fun _ => 0))), (a_18, .inl (cy 1, 6, .inl (fun _ => 0))), (a_20, .inl (cy 1, 30, .inl (fun _ => 0)))] H) (hD : va_D A [(a_0, .inr (0, [.int 0, .int 0, .int 0, .int 0, .int 0, .int 0, .int 0, .int 0, .ref a_14, .ref a_15, .ref a_16, .ref a_17, .ref a_18, .ref a_19, .ref a_20, .ref a_21, .ref a_22, .ref a_23])), (a_16, .inl (cy 1, 3, .inl (fun _ => 0))), (a_18, .inl (cy 1, 6, .inl (fun _ => 0))), (a_20, .inl (cy 1, 30, .inl (fun _ => 0)))]) hS
  refine lv_aload_n hx hb dX0_wipe_20 rfl (lv_at hl 0 rfl) ?_
  refine lv_iconst (v := 0) hx hb dX0_wipe_21 (by decide) ?_
  refine va_put (D := G) (ci := 0) (v := .int 0) (ty := tyX0 4) (C := RX0) (T := TX0) (N := 18) hx hb hts (mm_i inlX0) tyX0 tyX0_ok nmX0 hown hK.1 hP hD hS 0 rfl rfl 4 (by decide) (mm_h hts mm_w219) (fun _ h9 => h9) rfl (tyX0_ok 4 (by decide)) rfl rfl (Nat.le_of_ble_eq_true rfl) dX0_wipe_22 ?_
  clear hP hD hS
  clear H locs
  intro H locs (hP : va_P G vwCl [(a_0, .inr (0, [.int 0, .int 0, .int 0, .int 0, .int 0, .int 0, .int 0, .int 0, .ref a_14, .ref a_15, .ref a_16, .ref a_17, .ref a_18, .ref a_19, .ref a_20, .ref a_21, .ref a_22, .ref a_23])), (a_16, .inl (cy 1, 3, .inl (fun _ => 0))), (a_18, .inl (cy 1, 6, .inl (fun _ => 0))), (a_20, .inl (cy 1, 30, .inl (fun _ => 0)))] H) (hD : va_D A [(a_0, .inr (0, [.int 0, .int 0, .int 0, .int 0, .int 0, .int 0, .int 0, .int 0, .ref a_14, .ref a_15, .ref a_16, .ref a_17, .ref a_18, .ref a_19, .ref a_20, .ref a_21, .ref a_22, .ref a_23])), (a_16, .inl (cy 1, 3, .inl (fun _ => 0))), (a_18, .inl (cy 1, 6, .inl (fun _ => 0))), (a_20, .inl (cy 1, 30, .inl (fun _ => 0)))]) hS
  refine lv_aload_n hx hb dX0_wipe_25 rfl (lv_at hl 0 rfl) ?_
  refine lv_iconst (v := 0) hx hb dX0_wipe_26 (by decide) ?_
  refine va_put (D := G) (ci := 0) (v := .int 0) (ty := tyX0 5) (C := RX0) (T := TX0) (N := 18) hx hb hts (mm_i inlX0) tyX0 tyX0_ok nmX0 hown hK.1 hP hD hS 0 rfl rfl 5 (by decide) (mm_h hts mm_w220) (fun _ h9 => h9) rfl (tyX0_ok 5 (by decide)) rfl rfl (Nat.le_of_ble_eq_true rfl) dX0_wipe_27 ?_
  clear hP hD hS
  clear H locs
  intro H locs (hP : va_P G vwCl [(a_0, .inr (0, [.int 0, .int 0, .int 0, .int 0, .int 0, .int 0, .int 0, .int 0, .ref a_14, .ref a_15, .ref a_16, .ref a_17, .ref a_18, .ref a_19, .ref a_20, .ref a_21, .ref a_22, .ref a_23])), (a_16, .inl (cy 1, 3, .inl (fun _ => 0))), (a_18, .inl (cy 1, 6, .inl (fun _ => 0))), (a_20, .inl (cy 1, 30, .inl (fun _ => 0)))] H) (hD : va_D A [(a_0, .inr (0, [.int 0, .int 0, .int 0, .int 0, .int 0, .int 0, .int 0, .int 0, .ref a_14, .ref a_15, .ref a_16, .ref a_17, .ref a_18, .ref a_19, .ref a_20, .ref a_21, .ref a_22, .ref a_23])), (a_16, .inl (cy 1, 3, .inl (fun _ => 0))), (a_18, .inl (cy 1, 6, .inl (fun _ => 0))), (a_20, .inl (cy 1, 30, .inl (fun _ => 0)))]) hS
  refine lv_aload_n hx hb dX0_wipe_30 rfl (lv_at hl 0 rfl) ?_
  refine lv_iconst (v := 0) hx hb dX0_wipe_31 (by decide) ?_
  refine va_put (D := G) (ci := 0) (v := .int 0) (ty := tyX0 6) (C := RX0) (T := TX0) (N := 18) hx hb hts (mm_i inlX0) tyX0 tyX0_ok nmX0 hown hK.1 hP hD hS 0 rfl rfl 6 (by decide) (mm_h hts mm_w221) (fun _ h9 => h9) rfl (tyX0_ok 6 (by decide)) rfl rfl (Nat.le_of_ble_eq_true rfl) dX0_wipe_32 ?_
  clear hP hD hS
  clear H locs
  intro H locs (hP : va_P G vwCl [(a_0, .inr (0, [.int 0, .int 0, .int 0, .int 0, .int 0, .int 0, .int 0, .int 0, .ref a_14, .ref a_15, .ref a_16, .ref a_17, .ref a_18, .ref a_19, .ref a_20, .ref a_21, .ref a_22, .ref a_23])), (a_16, .inl (cy 1, 3, .inl (fun _ => 0))), (a_18, .inl (cy 1, 6, .inl (fun _ => 0))), (a_20, .inl (cy 1, 30, .inl (fun _ => 0)))] H) (hD : va_D A [(a_0, .inr (0, [.int 0, .int 0, .int 0, .int 0, .int 0, .int 0, .int 0, .int 0, .ref a_14, .ref a_15, .ref a_16, .ref a_17, .ref a_18, .ref a_19, .ref a_20, .ref a_21, .ref a_22, .ref a_23])), (a_16, .inl (cy 1, 3, .inl (fun _ => 0))), (a_18, .inl (cy 1, 6, .inl (fun _ => 0))), (a_20, .inl (cy 1, 30, .inl (fun _ => 0)))]) hS
  refine lv_aload_n hx hb dX0_wipe_35 rfl (lv_at hl 0 rfl) ?_
  refine lv_iconst (v := 0) hx hb dX0_wipe_36 (by decide) ?_
  refine va_put (D := G) (ci := 0) (v := .int 0) (ty := tyX0 7) (C := RX0) (T := TX0) (N := 18) hx hb hts (mm_i inlX0) tyX0 tyX0_ok nmX0 hown hK.1 hP hD hS 0 rfl rfl 7 (by decide) (mm_h hts mm_w222) (fun _ h9 => h9) rfl (tyX0_ok 7 (by decide)) rfl rfl (Nat.le_of_ble_eq_true rfl) dX0_wipe_37 ?_
  clear hP hD hS
  clear H locs
  intro H locs (hP : va_P G vwCl [(a_0, .inr (0, [.int 0, .int 0, .int 0, .int 0, .int 0, .int 0, .int 0, .int 0, .ref a_14, .ref a_15, .ref a_16, .ref a_17, .ref a_18, .ref a_19, .ref a_20, .ref a_21, .ref a_22, .ref a_23])), (a_16, .inl (cy 1, 3, .inl (fun _ => 0))), (a_18, .inl (cy 1, 6, .inl (fun _ => 0))), (a_20, .inl (cy 1, 30, .inl (fun _ => 0)))] H) (hD : va_D A [(a_0, .inr (0, [.int 0, .int 0, .int 0, .int 0, .int 0, .int 0, .int 0, .int 0, .ref a_14, .ref a_15, .ref a_16, .ref a_17, .ref a_18, .ref a_19, .ref a_20, .ref a_21, .ref a_22, .ref a_23])), (a_16, .inl (cy 1, 3, .inl (fun _ => 0))), (a_18, .inl (cy 1, 6, .inl (fun _ => 0))), (a_20, .inl (cy 1, 30, .inl (fun _ => 0)))]) hS
  refine lv_aload_n hx hb dX0_wipe_40 rfl (lv_at hl 0 rfl) ?_
  refine va_get (D := G) (ci := 0) (v := .ref a_16) (C := RX0) (T := TX0) (N := 18) hx hb hts (mm_i inlX0) hown hK.1 hP 0 rfl rfl 10 (by decide) (mm_h hts mm_w74) (fun _ h9 => h9) rfl dX0_wipe_41 ?_
  refine lv_iconst (v := 0) hx hb dX0_wipe_44 (by decide) ?_
  refine mm_finv (va_runS (As := [.ref a_16, .int 0]) (rest := []) ⟨hx, hb, hml, hown, hts⟩ (K34_J7_fill_53178 l G cy H.size a_16 ) (va_cwS 2 hts (mm_gS mm_w223 mm_w224 mm_w225 mm_w226) rfl rfl rfl hs_J7_fill_53178 ⟨by rw [hRf]; exact Nat.le_of_ble_eq_true rfl, by rw [hRl]; exact Nat.le_of_ble_eq_true rfl⟩) (mm_preS hK hP hD [1] rfl rfl) rfl rfl hl.1 rfl (lv_room (Nat.le_of_ble_eq_true rfl)) dX0_wipe_45 ⟨by rw [hRc]; exact Nat.le_of_ble_eq_true rfl, by rw [hRs]; exact Nat.le_of_ble_eq_true rfl⟩) hP hD hS hA (fun u : (Nat → Int32) => [(a_0, .inr (0, [.int 0, .int 0, .int 0, .int 0, .int 0, .int 0, .int 0, .int 0, .ref a_14, .ref a_15, .ref a_16, .ref a_17, .ref a_18, .ref a_19, .ref a_20, .ref a_21, .ref a_22, .ref a_23])), (a_16, .inl (cy 1, 3, .inl u)), (a_18, .inl (cy 1, 6, .inl (fun _ => 0))), (a_20, .inl (cy 1, 30, .inl (fun _ => 0)))]) [1] [0, 2, 3] (n := 4) (fun _ => rfl) (by decide +kernel) (by decide +kernel) rfl (fun _ => rfl) (wr := [(a_0, .inr (0, [.int 0, .int 0, .int 0, .int 0, .int 0, .int 0, .int 0, .int 0, .ref a_14, .ref a_15, .ref a_16, .ref a_17, .ref a_18, .ref a_19, .ref a_20, .ref a_21, .ref a_22, .ref a_23])), (a_18, .inl (cy 1, 6, .inl (fun _ => 0))), (a_20, .inl (cy 1, 30, .inl (fun _ => 0)))]) rfl (fun _ => rfl) (fun _ => rfl) ?_
  clear hP hD hS
  clear H locs
  intro n1 H locs hw (hP : va_P G vwCl [(a_0, .inr (0, [.int 0, .int 0, .int 0, .int 0, .int 0, .int 0, .int 0, .int 0, .ref a_14, .ref a_15, .ref a_16, .ref a_17, .ref a_18, .ref a_19, .ref a_20, .ref a_21, .ref a_22, .ref a_23])), (a_16, .inl (cy 1, 3, .inl n1)), (a_18, .inl (cy 1, 6, .inl (fun _ => 0))), (a_20, .inl (cy 1, 30, .inl (fun _ => 0)))] H) (hD : va_D A [(a_0, .inr (0, [.int 0, .int 0, .int 0, .int 0, .int 0, .int 0, .int 0, .int 0, .ref a_14, .ref a_15, .ref a_16, .ref a_17, .ref a_18, .ref a_19, .ref a_20, .ref a_21, .ref a_22, .ref a_23])), (a_16, .inl (cy 1, 3, .inl n1)), (a_18, .inl (cy 1, 6, .inl (fun _ => 0))), (a_20, .inl (cy 1, 30, .inl (fun _ => 0)))]) hS
  have w2 := hw
  refine lv_aload_n hx hb dX0_wipe_48 rfl (lv_at hl 0 rfl) ?_
  refine va_get (D := G) (ci := 0) (v := .ref a_18) (C := RX0) (T := TX0) (N := 18) hx hb hts (mm_i inlX0) hown hK.1 hP 0 rfl rfl 12 (by decide) (mm_h hts mm_w76) (fun _ h9 => h9) rfl dX0_wipe_49 ?_
  refine lv_iconst (v := 0) hx hb dX0_wipe_52 (by decide) ?_
  refine mm_finv (va_runS (As := [.ref a_18, .int 0]) (rest := []) ⟨hx, hb, hml, hown, hts⟩ (K35_J7_fill_53178 l G cy H.size a_18 ) (va_cwS 2 hts (mm_gS mm_w223 mm_w224 mm_w225 mm_w226) rfl rfl rfl hs_J7_fill_53178 ⟨by rw [hRf]; exact Nat.le_of_ble_eq_true rfl, by rw [hRl]; exact Nat.le_of_ble_eq_true rfl⟩) (mm_preS hK hP hD [2] rfl rfl) rfl rfl hl.1 rfl (lv_room (Nat.le_of_ble_eq_true rfl)) dX0_wipe_53 ⟨by rw [hRc]; exact Nat.le_of_ble_eq_true rfl, by rw [hRs]; exact Nat.le_of_ble_eq_true rfl⟩) hP hD hS hA (fun u : (Nat → Int32) => [(a_0, .inr (0, [.int 0, .int 0, .int 0, .int 0, .int 0, .int 0, .int 0, .int 0, .ref a_14, .ref a_15, .ref a_16, .ref a_17, .ref a_18, .ref a_19, .ref a_20, .ref a_21, .ref a_22, .ref a_23])), (a_16, .inl (cy 1, 3, .inl n1)), (a_18, .inl (cy 1, 6, .inl u)), (a_20, .inl (cy 1, 30, .inl (fun _ => 0)))]) [2] [0, 1, 3] (n := 4) (fun _ => rfl) (by decide +kernel) (by decide +kernel) rfl (fun _ => rfl) (wr := [(a_0, .inr (0, [.int 0, .int 0, .int 0, .int 0, .int 0, .int 0, .int 0, .int 0, .ref a_14, .ref a_15, .ref a_16, .ref a_17, .ref a_18, .ref a_19, .ref a_20, .ref a_21, .ref a_22, .ref a_23])), (a_16, .inl (cy 1, 3, .inl n1)), (a_20, .inl (cy 1, 30, .inl (fun _ => 0)))]) rfl (fun _ => rfl) (fun _ => rfl) ?_
  clear hP hD hS
  clear H locs
  intro n3 H locs hw (hP : va_P G vwCl [(a_0, .inr (0, [.int 0, .int 0, .int 0, .int 0, .int 0, .int 0, .int 0, .int 0, .ref a_14, .ref a_15, .ref a_16, .ref a_17, .ref a_18, .ref a_19, .ref a_20, .ref a_21, .ref a_22, .ref a_23])), (a_16, .inl (cy 1, 3, .inl n1)), (a_18, .inl (cy 1, 6, .inl n3)), (a_20, .inl (cy 1, 30, .inl (fun _ => 0)))] H) (hD : va_D A [(a_0, .inr (0, [.int 0, .int 0, .int 0, .int 0, .int 0, .int 0, .int 0, .int 0, .ref a_14, .ref a_15, .ref a_16, .ref a_17, .ref a_18, .ref a_19, .ref a_20, .ref a_21, .ref a_22, .ref a_23])), (a_16, .inl (cy 1, 3, .inl n1)), (a_18, .inl (cy 1, 6, .inl n3)), (a_20, .inl (cy 1, 30, .inl (fun _ => 0)))]) hS
  have w4 := hw
  refine lv_iconst (v := 0) hx hb dX0_wipe_56 (by decide) ?_
  refine lv_istore_n (lv' := [(1, .int 0), (0, .ref a_0)]) hx hb dX0_wipe_57 rfl hl (by decide) rfl ?_
  clear hl
  clear ls
  intro ls hl
  have L58_37 : ∀ (n : Nat) (x58_1_36 : Int32) (z58_3_37 : Nat → Int32), mm_rg x58_1_36 0 30 → mm_ar z58_3_37 0 9 → (30 - x58_1_36.toInt).toNat < n → ∀ (H : Heap) (locs : List Loc), va_P G vwCl [(a_0, .inr (0, [.int 0, .int 0, .int 0, .int 0, .int 0, .int 0, .int 0, .int 0, .ref a_14, .ref a_15, .ref a_16, .ref a_17, .ref a_18, .ref a_19, .ref a_20, .ref a_21, .ref a_22, .ref a_23])), (a_16, .inl (cy 1, 3, .inl n1)), (a_18, .inl (cy 1, 6, .inl n3)), (a_20, .inl (cy 1, 30, .inl z58_3_37))] H → va_D A [(a_0, .inr (0, [.int 0, .int 0, .int 0, .int 0, .int 0, .int 0, .int 0, .int 0, .ref a_14, .ref a_15, .ref a_16, .ref a_17, .ref a_18, .ref a_19, .ref a_20, .ref a_21, .ref a_22, .ref a_23])), (a_16, .inl (cy 1, 3, .inl n1)), (a_18, .inl (cy 1, 6, .inl n3)), (a_20, .inl (cy 1, 30, .inl z58_3_37))] → va_S A s.heap H locs → ∀ (ls : Array Slot), lv_has ls 2 [(1, .int x58_1_36), (0, .ref a_0)] → W p l e R s m args below meth c H locs 0 0 Q (F0 m 58 ls []) := by
    intro n
    induction n with
    | zero => intro x58_1_36 z58_3_37 rx58_1_36 rz58_3_37 hm; exact absurd hm (Nat.not_lt_zero _)
    | succ n ih58 =>
      intro x58_1_36 z58_3_37 rx58_1_36 rz58_3_37 hm58 H locs hP hD hS ls hl
      refine lv_iload_n hx hb dX0_wipe_58 rfl (lv_at hl 0 rfl) ?_
      refine lv_aload_n hx hb dX0_wipe_59 rfl (lv_at hl 1 rfl) ?_
      refine va_get (D := G) (ci := 0) (v := .ref a_20) (C := RX0) (T := TX0) (N := 18) hx hb hts (mm_i inlX0) hown hK.1 hP 0 rfl rfl 14 (by decide) (mm_h hts mm_w78) (fun _ h9 => h9) rfl dX0_wipe_60 ?_
      refine va_alen (v := 30) hx hb hK.1 hP 3 1 rfl rfl rfl dX0_wipe_63 ?_
      refine lv_icmp_ge (tgt := 83) hx hb dX0_wipe_64 (by decide) (fun c39 => ?_) (fun c39 => ?_)
      · have q40 := mm_leR (mm_le c39) mm_k30 rx58_1_36
        subst hAe
        rw [hQ]
        exact W.vret hx hb hr (fun t ht hW => ⟨⟨(n1, n3, z58_3_37), rfl, ⟨w2, w4, rz58_3_37⟩, by rw [ht]; exact hP, hK.warm hW, hD⟩, hS.F ht⟩) hS.2.2 dX0_wipe_83
      · have q41 := mm_ltL (h := 29) (mm_nle c39) rx58_1_36 mm_k30 (by decide)
        refine lv_aload_n hx hb dX0_wipe_67 rfl (lv_at hl 1 rfl) ?_
        refine va_get (D := G) (ci := 0) (v := .ref a_20) (C := RX0) (T := TX0) (N := 18) hx hb hts (mm_i inlX0) hown hK.1 hP 0 rfl rfl 14 (by decide) (mm_h hts mm_w78) (fun _ h9 => h9) rfl dX0_wipe_68 ?_
        refine lv_iload_n hx hb dX0_wipe_71 rfl (lv_at hl 0 rfl) ?_
        refine lv_iload_n hx hb dX0_wipe_72 rfl (lv_at hl 0 rfl) ?_
        refine lv_bipush (v := 10) hx hb dX0_wipe_73 (by decide) ?_
        refine lv_irem hx hb dX0_wipe_75 (mm_nz mm_k10 (by decide)) ?_
        refine lv_topi (fun v42 ev42 => ?_)
        have rv42 : mm_rg v42 0 9 := mm_rem ev42 q41 mm_k10 (by decide) (by decide)
        refine va_iast hx hb hK.1 hP hD hS 3 1 rfl rfl (mm_in q41 (by decide)) dX0_wipe_76 ?_
        clear hP hD hS
        clear H locs
        obtain ⟨g43, eg43⟩ : ∃ z : Nat → Int32, z = upd z58_3_37 x58_1_36.toNatClampNeg v42 := ⟨_, rfl⟩
        rw [← eg43]
        intro H locs (hP : va_P G vwCl [(a_0, .inr (0, [.int 0, .int 0, .int 0, .int 0, .int 0, .int 0, .int 0, .int 0, .ref a_14, .ref a_15, .ref a_16, .ref a_17, .ref a_18, .ref a_19, .ref a_20, .ref a_21, .ref a_22, .ref a_23])), (a_16, .inl (cy 1, 3, .inl n1)), (a_18, .inl (cy 1, 6, .inl n3)), (a_20, .inl (cy 1, 30, .inl g43))] H) (hD : va_D A [(a_0, .inr (0, [.int 0, .int 0, .int 0, .int 0, .int 0, .int 0, .int 0, .int 0, .ref a_14, .ref a_15, .ref a_16, .ref a_17, .ref a_18, .ref a_19, .ref a_20, .ref a_21, .ref a_22, .ref a_23])), (a_16, .inl (cy 1, 3, .inl n1)), (a_18, .inl (cy 1, 6, .inl n3)), (a_20, .inl (cy 1, 30, .inl g43))]) hS
        have rg43 : mm_ar g43 0 9 := by rw [eg43]; exact mm_ar_upd (mm_ar_wk rz58_3_37 (by decide)) (mm_wk rv42 (by decide)) _
        obtain ⟨v44, ev44⟩ : ∃ y : Int32, y = x58_1_36 + 1 := ⟨_, rfl⟩
        refine lv_iinc (v := v44) (lv' := [(1, .int v44), (0, .ref a_0)]) hx hb dX0_wipe_77 hl (k := 0) rfl (by rw [ev44]; rfl) (by decide) rfl ?_
        clear hl
        clear ls
        intro ls hl
        have rv44 : mm_rg v44 1 30 := mm_add ev44 q41 mm_k1 (by decide) (by decide)
        have tv44 := mm_addE ev44 q41 mm_k1 (by decide)
        refine lv_goto (tgt := 58) hx hb dX0_wipe_80 (by decide) ?_
        exact ih58 v44 g43 (mm_wk rv44 (by decide)) rg43 (mm_mu hm58 tv44 (by decide) (rv44).2 (by decide)) H locs hP hD hS ls (lv_sub hl [0, 1] rfl)
  exact L58_37 _ 0 (fun _ => 0) (mm_wk mm_k0 (by decide)) (mm_ar_wk (mm_ar_c mm_k0) (by decide)) (Nat.lt_succ_self _) H locs hP hD hS ls (lv_sub hl [0, 1] rfl)

set_option maxHeartbeats 4000000 in
set_option maxRecDepth 100000 in
theorem K37_X7_partAt (l : Launch) (G : va_G) (cy : Nat → ClassId) (sz : Nat) (a_0 : Nat) (a_2 : Nat) (a_12 : Nat) (a_13 : Nat) (k_0 : Int32) (k_1 : Int32) (k_2 : Int32) (k_3 : Int32) (k_4 : Int32) (k_5 : Int32)   : mm_CI l yX7_partAt (mm_ws yX7_partAt cX7_partAt 3 (some .int)) ({ frames := 0, cells := 0, slots := 0, locals := 0 } : Room) G cy sz [(a_2, .inr (9, [.ref a_12, .int 0])), (a_0, .inr (7, [.ref a_2, .ref a_13, .int k_0, .int k_1, .int k_2, .int k_3, .int k_4, .int k_5]))] [.ref a_0, .int 0] (fun u : Unit => [(a_2, .inr (9, [.ref a_12, .int 0])), (a_0, .inr (7, [.ref a_2, .ref a_13, .int k_0, .int k_1, .int k_2, .int k_3, .int k_4, .int k_5]))]) (fun (r : Int32) (u : Unit) => 0 = r) 0 0 := by
  refine mm_begin (lv := [(0, .ref a_0), (1, .int 0)]) (by decide) (Nat.le_of_ble_eq_true rfl) rfl ?_
  intro p e s m below meth c A ls R args Q H locs hRe hQ hAe hx hb hr hlocks hml hown hnm hts hsz hA hS hP hK hD hl
  have hRf : R.frames = 0 := by rw [hRe]
  have hRl : R.locals = 0 := by rw [hRe]
  have hRc : R.cells = 0 := by rw [hRe]
  have hRs : R.slots = 0 := by rw [hRe]
  refine lv_iload_n hx hb dX7_partAt_0 rfl (lv_at hl 1 rfl) ?_
  refine lv_if_lt (tgt := 15) hx hb dX7_partAt_1 (by decide) (fun c1 => ?_) (fun c1 => ?_)
  · have q2 := mm_ltL (h := (-1)) (mm_lt c1) mm_k0 mm_k0 (by decide)
    exact mm_no q2 (by decide)
  · refine lv_iload_n hx hb dX7_partAt_4 rfl (lv_at hl 1 rfl) ?_
    refine lv_aload_n hx hb dX7_partAt_5 rfl (lv_at hl 0 rfl) ?_
    refine va_get (D := G) (ci := 7) (v := .ref a_2) (C := RX7) (T := TX7) (N := 8) hx hb hts (mm_i inlX7) hown hK.1 hP 1 rfl rfl 0 (by decide) (mm_h hts mm_w67) (fun _ h9 => h9) rfl dX7_partAt_6 ?_
    refine va_get (D := G) (ci := 9) (v := .int 0) (C := RX9) (T := TX9) (N := 2) hx hb hts (mm_i inlX9) hown hK.1 hP 0 rfl rfl 1 (by decide) (mm_h hts mm_w231) (fun _ h9 => h9) rfl dX7_partAt_9 ?_
    refine lv_icmp_lt (tgt := 17) hx hb dX7_partAt_12 (by decide) (fun c3 => ?_) (fun c3 => ?_)
    · have q4 := mm_ltL (h := (-1)) (mm_lt c3) mm_k0 mm_k0 (by decide)
      exact mm_no q4 (by decide)
    · refine lv_iconst (v := 0) hx hb dX7_partAt_15 (by decide) ?_
      subst hAe
      rw [hQ]
      exact W.iret (v := 0) hx hb hr (fun t ht hW => ⟨⟨0, (), rfl, rfl, by rw [ht]; exact hP, hK.warm hW, hD⟩, hS.F ht⟩) hS.2.2 dX7_partAt_16

set_option maxHeartbeats 4000000 in
set_option maxRecDepth 100000 in
theorem K39_X7_partAt (l : Launch) (G : va_G) (cy : Nat → ClassId) (sz : Nat) (a_0 : Nat) (a_1 : Nat) (a_2 : Nat) (a_3 : Nat) (i_0 : Int32) (i_1 : Int32) (k_0 : Int32) (k_1 : Int32) (k_2 : Int32) (k_3 : Int32)   : mm_CI l yX7_partAt (mm_ws yX7_partAt cX7_partAt 3 (some .int)) ({ frames := 0, cells := 0, slots := 0, locals := 0 } : Room) G cy sz [(a_1, .inr (9, [.ref a_2, .int 0])), (a_0, .inr (7, [.ref a_1, .ref a_3, .int i_0, .int i_1, .int k_0, .int k_1, .int k_2, .int k_3]))] [.ref a_0, .int 0] (fun u : Unit => [(a_1, .inr (9, [.ref a_2, .int 0])), (a_0, .inr (7, [.ref a_1, .ref a_3, .int i_0, .int i_1, .int k_0, .int k_1, .int k_2, .int k_3]))]) (fun (r : Int32) (u : Unit) => 0 = r) 0 0 := by
  refine mm_begin (lv := [(0, .ref a_0), (1, .int 0)]) (by decide) (Nat.le_of_ble_eq_true rfl) rfl ?_
  intro p e s m below meth c A ls R args Q H locs hRe hQ hAe hx hb hr hlocks hml hown hnm hts hsz hA hS hP hK hD hl
  have hRf : R.frames = 0 := by rw [hRe]
  have hRl : R.locals = 0 := by rw [hRe]
  have hRc : R.cells = 0 := by rw [hRe]
  have hRs : R.slots = 0 := by rw [hRe]
  refine lv_iload_n hx hb dX7_partAt_0 rfl (lv_at hl 1 rfl) ?_
  refine lv_if_lt (tgt := 15) hx hb dX7_partAt_1 (by decide) (fun c1 => ?_) (fun c1 => ?_)
  · have q2 := mm_ltL (h := (-1)) (mm_lt c1) mm_k0 mm_k0 (by decide)
    exact mm_no q2 (by decide)
  · refine lv_iload_n hx hb dX7_partAt_4 rfl (lv_at hl 1 rfl) ?_
    refine lv_aload_n hx hb dX7_partAt_5 rfl (lv_at hl 0 rfl) ?_
    refine va_get (D := G) (ci := 7) (v := .ref a_1) (C := RX7) (T := TX7) (N := 8) hx hb hts (mm_i inlX7) hown hK.1 hP 1 rfl rfl 0 (by decide) (mm_h hts mm_w67) (fun _ h9 => h9) rfl dX7_partAt_6 ?_
    refine va_get (D := G) (ci := 9) (v := .int 0) (C := RX9) (T := TX9) (N := 2) hx hb hts (mm_i inlX9) hown hK.1 hP 0 rfl rfl 1 (by decide) (mm_h hts mm_w231) (fun _ h9 => h9) rfl dX7_partAt_9 ?_
    refine lv_icmp_lt (tgt := 17) hx hb dX7_partAt_12 (by decide) (fun c3 => ?_) (fun c3 => ?_)
    · have q4 := mm_ltL (h := (-1)) (mm_lt c3) mm_k0 mm_k0 (by decide)
      exact mm_no q4 (by decide)
    · refine lv_iconst (v := 0) hx hb dX7_partAt_15 (by decide) ?_
      subst hAe
      rw [hQ]
      exact W.iret (v := 0) hx hb hr (fun t ht hW => ⟨⟨0, (), rfl, rfl, by rw [ht]; exact hP, hK.warm hW, hD⟩, hS.F ht⟩) hS.2.2 dX7_partAt_16

set_option maxHeartbeats 4000000 in
set_option maxRecDepth 100000 in
theorem K38_X7_nextToken (l : Launch) (G : va_G) (cy : Nat → ClassId) (sz : Nat) (a_0 : Nat) (a_2 : Nat) (a_12 : Nat) (a_13 : Nat) (k_0 : Int32) (k_1 : Int32)   : mm_CV l yX7_nextToken (mm_ws yX7_nextToken cX7_nextToken 4 (none)) ({ frames := 1, cells := 0, slots := 0, locals := 22 } : Room) G cy sz [(a_2, .inr (9, [.ref a_12, .int 0])), (a_0, .inr (7, [.ref a_2, .ref a_13, .int k_0, .int k_1, .int 0, .int 0, .int 0, .int 0]))] [.ref a_0] (fun u : Unit => [(a_2, .inr (9, [.ref a_12, .int 0])), (a_0, .inr (7, [.ref a_2, .ref a_13, .int k_0, .int k_1, .int 0, .int 0, .int 0, .int 0]))]) (fun u : Unit => True) 0 0 := by
  refine mm_begin (lv := [(0, .ref a_0)]) (by decide) (Nat.le_of_ble_eq_true rfl) rfl ?_
  intro p e s m below meth c A ls R args Q H locs hRe hQ hAe hx hb hr hlocks hml hown hnm hts hsz hA hS hP hK hD hl
  have hRf : R.frames = 1 := by rw [hRe]
  have hRl : R.locals = 22 := by rw [hRe]
  have hRc : R.cells = 0 := by rw [hRe]
  have hRs : R.slots = 0 := by rw [hRe]
  refine lv_aload_n hx hb dX7_nextToken_0 rfl (lv_at hl 0 rfl) ?_
  refine va_get (D := G) (ci := 7) (v := .int 0) (C := RX7) (T := TX7) (N := 8) hx hb hts (mm_i inlX7) hown hK.1 hP 1 rfl rfl 6 (by decide) (mm_h hts mm_w206) (fun _ h9 => h9) rfl dX7_nextToken_1 ?_
  refine lv_istore_n (lv' := [(1, .int 0), (0, .ref a_0)]) hx hb dX7_nextToken_4 rfl hl (by decide) rfl ?_
  clear hl
  clear ls
  intro ls hl
  refine lv_iload_n hx hb dX7_nextToken_5 rfl (lv_at hl 0 rfl) ?_
  refine lv_aload_n hx hb dX7_nextToken_6 rfl (lv_at hl 1 rfl) ?_
  refine va_get (D := G) (ci := 7) (v := .ref a_2) (C := RX7) (T := TX7) (N := 8) hx hb hts (mm_i inlX7) hown hK.1 hP 1 rfl rfl 0 (by decide) (mm_h hts mm_w67) (fun _ h9 => h9) rfl dX7_nextToken_7 ?_
  refine va_get (D := G) (ci := 9) (v := .int 0) (C := RX9) (T := TX9) (N := 2) hx hb hts (mm_i inlX9) hown hK.1 hP 0 rfl rfl 1 (by decide) (mm_h hts mm_w231) (fun _ h9 => h9) rfl dX7_nextToken_10 ?_
  refine lv_icmp_ge (tgt := 31) hx hb dX7_nextToken_13 (by decide) (fun c14 => ?_) (fun c14 => ?_)
  · refine lv_aload_n hx hb dX7_nextToken_31 rfl (lv_at hl 1 rfl) ?_
    refine lv_aload_n hx hb dX7_nextToken_32 rfl (lv_at hl 1 rfl) ?_
    refine lv_iload_n hx hb dX7_nextToken_33 rfl (lv_at hl 0 rfl) ?_
    refine mm_finir (va_runV (As := [.int 0]) (rest := [.ref a_0]) ⟨hx, hb, hml, hown, hts⟩ (K39_X7_partAt l G cy H.size a_0 a_2 a_12 a_13 k_0 k_1 0 0 0 0 ) (cwV 1 hts (mm_gV mm_w234 mm_w235 mm_w236 mm_w19 mm_w237) rfl rfl rfl hd_X7_partAt ⟨by rw [hRf]; exact Nat.le_of_ble_eq_true rfl, by rw [hRl]; exact Nat.le_of_ble_eq_true rfl⟩) (mm_preV hK hP hD [0, 1] rfl rfl 1 rfl rfl rfl) rfl rfl hl.1 rfl (lv_room (Nat.le_of_ble_eq_true rfl)) dX7_nextToken_34 ⟨by rw [hRc]; exact Nat.le_of_ble_eq_true rfl, by rw [hRs]; exact Nat.le_of_ble_eq_true rfl⟩) hP hD hS hA [0, 1] rfl (fun _ => rfl) ?_
    clear hP hD hS
    clear H locs
    intro v15 _u H locs hw hP hD hS
    subst hw
    refine va_put (D := G) (ci := 7) (v := .int 0) (ty := tyX7 4) (C := RX7) (T := TX7) (N := 8) hx hb hts (mm_i inlX7) tyX7 tyX7_ok nmX7 hown hK.1 hP hD hS 1 rfl rfl 4 (by decide) (mm_h hts mm_w207) (fun _ h9 => h9) rfl (tyX7_ok 4 (by decide)) rfl rfl (Nat.le_of_ble_eq_true rfl) dX7_nextToken_37 ?_
    clear hP hD hS
    clear H locs
    intro H locs (hP : va_P G vwCl [(a_2, .inr (9, [.ref a_12, .int 0])), (a_0, .inr (7, [.ref a_2, .ref a_13, .int k_0, .int k_1, .int 0, .int 0, .int 0, .int 0]))] H) (hD : va_D A [(a_2, .inr (9, [.ref a_12, .int 0])), (a_0, .inr (7, [.ref a_2, .ref a_13, .int k_0, .int k_1, .int 0, .int 0, .int 0, .int 0]))]) hS
    refine lv_iload_n hx hb dX7_nextToken_40 rfl (lv_at hl 0 rfl) ?_
    refine lv_aload_n hx hb dX7_nextToken_41 rfl (lv_at hl 1 rfl) ?_
    refine va_get (D := G) (ci := 7) (v := .ref a_2) (C := RX7) (T := TX7) (N := 8) hx hb hts (mm_i inlX7) hown hK.1 hP 1 rfl rfl 0 (by decide) (mm_h hts mm_w67) (fun _ h9 => h9) rfl dX7_nextToken_42 ?_
    refine va_get (D := G) (ci := 9) (v := .int 0) (C := RX9) (T := TX9) (N := 2) hx hb hts (mm_i inlX9) hown hK.1 hP 0 rfl rfl 1 (by decide) (mm_h hts mm_w231) (fun _ h9 => h9) rfl dX7_nextToken_45 ?_
    refine lv_icmp_ge (tgt := 57) hx hb dX7_nextToken_48 (by decide) (fun c16 => ?_) (fun c16 => ?_)
    · refine lv_iload_n hx hb dX7_nextToken_57 rfl (lv_at hl 0 rfl) ?_
      refine lv_istore_n (lv' := [(2, .int 0), (1, .int 0), (0, .ref a_0)]) hx hb dX7_nextToken_58 rfl hl (by decide) rfl ?_
      clear hl
      clear ls
      intro ls hl
      refine lv_aload_n hx hb dX7_nextToken_59 rfl (lv_at hl 2 rfl) ?_
      refine va_get (D := G) (ci := 7) (v := .int 0) (C := RX7) (T := TX7) (N := 8) hx hb hts (mm_i inlX7) hown hK.1 hP 1 rfl rfl 4 (by decide) (mm_h hts mm_w207) (fun _ h9 => h9) rfl dX7_nextToken_60 ?_
      refine lv_iconst (v := 2) hx hb dX7_nextToken_63 (by decide) ?_
      refine lv_icmp_eq (tgt := 75) hx hb dX7_nextToken_64 (by decide) (fun c17 => ?_) (fun c17 => ?_)
      · exact mm_eqN c17 mm_k0 mm_k2 (by decide)
      · refine lv_aload_n hx hb dX7_nextToken_67 rfl (lv_at hl 2 rfl) ?_
        refine va_get (D := G) (ci := 7) (v := .int 0) (C := RX7) (T := TX7) (N := 8) hx hb hts (mm_i inlX7) hown hK.1 hP 1 rfl rfl 4 (by decide) (mm_h hts mm_w207) (fun _ h9 => h9) rfl dX7_nextToken_68 ?_
        refine lv_iconst (v := 3) hx hb dX7_nextToken_71 (by decide) ?_
        refine lv_icmp_ne (tgt := 79) hx hb dX7_nextToken_72 (by decide) (fun c18 => ?_) (fun c18 => ?_)
        · refine lv_iconst (v := 0) hx hb dX7_nextToken_79 (by decide) ?_
          refine lv_istore_n (lv' := [(3, .int 0), (2, .int 0), (1, .int 0), (0, .ref a_0)]) hx hb dX7_nextToken_80 rfl hl (by decide) rfl ?_
          clear hl
          clear ls
          intro ls hl
          refine lv_iload_n hx hb dX7_nextToken_81 rfl (lv_at hl 0 rfl) ?_
          refine lv_if_eq (tgt := 114) hx hb dX7_nextToken_82 (by decide) (fun c22 => ?_) (fun c22 => ?_)
          · refine lv_aload_n hx hb dX7_nextToken_114 rfl (lv_at hl 3 rfl) ?_
            refine lv_iload_n hx hb dX7_nextToken_115 rfl (lv_at hl 2 rfl) ?_
            refine va_put (D := G) (ci := 7) (v := .int 0) (ty := tyX7 5) (C := RX7) (T := TX7) (N := 8) hx hb hts (mm_i inlX7) tyX7 tyX7_ok nmX7 hown hK.1 hP hD hS 1 rfl rfl 5 (by decide) (mm_h hts mm_w232) (fun _ h9 => h9) rfl (tyX7_ok 5 (by decide)) rfl rfl (Nat.le_of_ble_eq_true rfl) dX7_nextToken_116 ?_
            clear hP hD hS
            clear H locs
            intro H locs (hP : va_P G vwCl [(a_2, .inr (9, [.ref a_12, .int 0])), (a_0, .inr (7, [.ref a_2, .ref a_13, .int k_0, .int k_1, .int 0, .int 0, .int 0, .int 0]))] H) (hD : va_D A [(a_2, .inr (9, [.ref a_12, .int 0])), (a_0, .inr (7, [.ref a_2, .ref a_13, .int k_0, .int k_1, .int 0, .int 0, .int 0, .int 0]))]) hS
            refine lv_aload_n hx hb dX7_nextToken_119 rfl (lv_at hl 3 rfl) ?_
            refine lv_iload_n hx hb dX7_nextToken_120 rfl (lv_at hl 1 rfl) ?_
            refine va_put (D := G) (ci := 7) (v := .int 0) (ty := tyX7 6) (C := RX7) (T := TX7) (N := 8) hx hb hts (mm_i inlX7) tyX7 tyX7_ok nmX7 hown hK.1 hP hD hS 1 rfl rfl 6 (by decide) (mm_h hts mm_w206) (fun _ h9 => h9) rfl (tyX7_ok 6 (by decide)) rfl rfl (Nat.le_of_ble_eq_true rfl) dX7_nextToken_121 ?_
            clear hP hD hS
            clear H locs
            intro H locs (hP : va_P G vwCl [(a_2, .inr (9, [.ref a_12, .int 0])), (a_0, .inr (7, [.ref a_2, .ref a_13, .int k_0, .int k_1, .int 0, .int 0, .int 0, .int 0]))] H) (hD : va_D A [(a_2, .inr (9, [.ref a_12, .int 0])), (a_0, .inr (7, [.ref a_2, .ref a_13, .int k_0, .int k_1, .int 0, .int 0, .int 0, .int 0]))]) hS
            refine lv_aload_n hx hb dX7_nextToken_124 rfl (lv_at hl 3 rfl) ?_
            refine lv_aload_n hx hb dX7_nextToken_125 rfl (lv_at hl 3 rfl) ?_
            refine va_get (D := G) (ci := 7) (v := .int 0) (C := RX7) (T := TX7) (N := 8) hx hb hts (mm_i inlX7) hown hK.1 hP 1 rfl rfl 4 (by decide) (mm_h hts mm_w207) (fun _ h9 => h9) rfl dX7_nextToken_126 ?_
            refine lv_iconst (v := 3) hx hb dX7_nextToken_129 (by decide) ?_
            refine lv_icmp_ne (tgt := 140) hx hb dX7_nextToken_130 (by decide) (fun c23 => ?_) (fun c23 => ?_)
            · refine lv_iconst (v := 0) hx hb dX7_nextToken_140 (by decide) ?_
              refine va_put (D := G) (ci := 7) (v := .int 0) (ty := tyX7 7) (C := RX7) (T := TX7) (N := 8) hx hb hts (mm_i inlX7) tyX7 tyX7_ok nmX7 hown hK.1 hP hD hS 1 rfl rfl 7 (by decide) (mm_h hts mm_w233) (fun _ h9 => h9) rfl (tyX7_ok 7 (by decide)) rfl rfl (Nat.le_of_ble_eq_true rfl) dX7_nextToken_141 ?_
              clear hP hD hS
              clear H locs
              intro H locs (hP : va_P G vwCl [(a_2, .inr (9, [.ref a_12, .int 0])), (a_0, .inr (7, [.ref a_2, .ref a_13, .int k_0, .int k_1, .int 0, .int 0, .int 0, .int 0]))] H) (hD : va_D A [(a_2, .inr (9, [.ref a_12, .int 0])), (a_0, .inr (7, [.ref a_2, .ref a_13, .int k_0, .int k_1, .int 0, .int 0, .int 0, .int 0]))]) hS
              subst hAe
              rw [hQ]
              exact W.vret hx hb hr (fun t ht hW => ⟨⟨(), rfl, trivial, by rw [ht]; exact hP, hK.warm hW, hD⟩, hS.F ht⟩) hS.2.2 dX7_nextToken_144
            · exact mm_eqN c23 mm_k0 mm_k3 (by decide)
          · have q24 := mm_neL (lo := 1) (mm_ne c22) mm_k0 mm_k0 (by decide) (by decide)
            exact mm_no q24 (by decide)
        · exact mm_eqN c18 mm_k0 mm_k3 (by decide)
    · have q25 := mm_ltL (h := (-1)) (mm_nle c16) mm_k0 mm_k0 (by decide)
      exact mm_no q25 (by decide)
  · have q26 := mm_ltL (h := (-1)) (mm_nle c14) mm_k0 mm_k0 (by decide)
    exact mm_no q26 (by decide)

set_option maxHeartbeats 4000000 in
set_option maxRecDepth 100000 in
theorem K41_X0_wipe (l : Launch) (G : va_G) (cy : Nat → ClassId) (sz : Nat) (a_0 : Nat) (a_4 : Nat) (a_5 : Nat) (a_6 : Nat) (a_7 : Nat) (a_8 : Nat) (a_9 : Nat) (a_10 : Nat) (a_11 : Nat) (a_12 : Nat) (a_13 : Nat)   : mm_CV l yX0_wipe (mm_ws yX0_wipe cX0_wipe 2 (none)) ({ frames := 1, cells := 0, slots := 0, locals := 23 } : Room) G cy sz [(a_0, .inr (0, [.int 0, .int 0, .int 0, .int 0, .int 0, .int 0, .int 0, .int 0, .ref a_4, .ref a_5, .ref a_6, .ref a_7, .ref a_8, .ref a_9, .ref a_10, .ref a_11, .ref a_12, .ref a_13])), (a_6, .inl (cy 1, 3, .inl (fun _ => 0))), (a_8, .inl (cy 1, 6, .inl (fun _ => 0))), (a_10, .inl (cy 1, 30, .inl (fun _ => 0)))] [.ref a_0] (fun u : (Nat → Int32) × (Nat → Int32) × (Nat → Int32) => [(a_0, .inr (0, [.int 0, .int 0, .int 0, .int 0, .int 0, .int 0, .int 0, .int 0, .ref a_4, .ref a_5, .ref a_6, .ref a_7, .ref a_8, .ref a_9, .ref a_10, .ref a_11, .ref a_12, .ref a_13])), (a_6, .inl (cy 1, 3, .inl u.1)), (a_8, .inl (cy 1, 6, .inl u.2.1)), (a_10, .inl (cy 1, 30, .inl u.2.2))]) (fun u : (Nat → Int32) × (Nat → Int32) × (Nat → Int32) => mm_ar u.1 0 0 ∧ mm_ar u.2.1 0 0 ∧ mm_ar u.2.2 0 9) 0 0 := by
  refine mm_begin (lv := [(0, .ref a_0)]) (by decide) (Nat.le_of_ble_eq_true rfl) rfl ?_
  intro p e s m below meth c A ls R args Q H locs hRe hQ hAe hx hb hr hlocks hml hown hnm hts hsz hA hS hP hK hD hl
  have hRf : R.frames = 1 := by rw [hRe]
  have hRl : R.locals = 23 := by rw [hRe]
  have hRc : R.cells = 0 := by rw [hRe]
  have hRs : R.slots = 0 := by rw [hRe]
  refine lv_aload_n hx hb dX0_wipe_0 rfl (lv_at hl 0 rfl) ?_
  refine lv_iconst (v := 0) hx hb dX0_wipe_1 (by decide) ?_
  refine va_put (D := G) (ci := 0) (v := .int 0) (ty := tyX0 0) (C := RX0) (T := TX0) (N := 18) hx hb hts (mm_i inlX0) tyX0 tyX0_ok nmX0 hown hK.1 hP hD hS 0 rfl rfl 0 (by decide) (mm_h hts mm_w215) (fun _ h9 => h9) rfl (tyX0_ok 0 (by decide)) rfl rfl (Nat.le_of_ble_eq_true rfl) dX0_wipe_2 ?_
  clear hP hD hS
  clear H locs
  intro H locs (hP : va_P G vwCl [(a_0, .inr (0, [.int 0, .int 0, .int 0, .int 0, .int 0, .int 0, .int 0, .int 0, .ref a_4, .ref a_5, .ref a_6, .ref a_7, .ref a_8, .ref a_9, .ref a_10, .ref a_11, .ref a_12, .ref a_13])), (a_6, .inl (cy 1, 3, .inl (fun _ => 0))), (a_8, .inl (cy 1, 6, .inl (fun _ => 0))), (a_10, .inl (cy 1, 30, .inl (fun _ => 0)))] H) (hD : va_D A [(a_0, .inr (0, [.int 0, .int 0, .int 0, .int 0, .int 0, .int 0, .int 0, .int 0, .ref a_4, .ref a_5, .ref a_6, .ref a_7, .ref a_8, .ref a_9, .ref a_10, .ref a_11, .ref a_12, .ref a_13])), (a_6, .inl (cy 1, 3, .inl (fun _ => 0))), (a_8, .inl (cy 1, 6, .inl (fun _ => 0))), (a_10, .inl (cy 1, 30, .inl (fun _ => 0)))]) hS
  refine lv_aload_n hx hb dX0_wipe_5 rfl (lv_at hl 0 rfl) ?_
  refine lv_iconst (v := 0) hx hb dX0_wipe_6 (by decide) ?_
  refine va_put (D := G) (ci := 0) (v := .int 0) (ty := tyX0 1) (C := RX0) (T := TX0) (N := 18) hx hb hts (mm_i inlX0) tyX0 tyX0_ok nmX0 hown hK.1 hP hD hS 0 rfl rfl 1 (by decide) (mm_h hts mm_w216) (fun _ h9 => h9) rfl (tyX0_ok 1 (by decide)) rfl rfl (Nat.le_of_ble_eq_true rfl) dX0_wipe_7 ?_
  clear hP hD hS
  clear H locs
  intro H locs (hP : va_P G vwCl [(a_0, .inr (0, [.int 0, .int 0, .int 0, .int 0, .int 0, .int 0, .int 0, .int 0, .ref a_4, .ref a_5, .ref a_6, .ref a_7, .ref a_8, .ref a_9, .ref a_10, .ref a_11, .ref a_12, .ref a_13])), (a_6, .inl (cy 1, 3, .inl (fun _ => 0))), (a_8, .inl (cy 1, 6, .inl (fun _ => 0))), (a_10, .inl (cy 1, 30, .inl (fun _ => 0)))] H) (hD : va_D A [(a_0, .inr (0, [.int 0, .int 0, .int 0, .int 0, .int 0, .int 0, .int 0, .int 0, .ref a_4, .ref a_5, .ref a_6, .ref a_7, .ref a_8, .ref a_9, .ref a_10, .ref a_11, .ref a_12, .ref a_13])), (a_6, .inl (cy 1, 3, .inl (fun _ => 0))), (a_8, .inl (cy 1, 6, .inl (fun _ => 0))), (a_10, .inl (cy 1, 30, .inl (fun _ => 0)))]) hS
  refine lv_aload_n hx hb dX0_wipe_10 rfl (lv_at hl 0 rfl) ?_
  refine lv_iconst (v := 0) hx hb dX0_wipe_11 (by decide) ?_
  refine va_put (D := G) (ci := 0) (v := .int 0) (ty := tyX0 2) (C := RX0) (T := TX0) (N := 18) hx hb hts (mm_i inlX0) tyX0 tyX0_ok nmX0 hown hK.1 hP hD hS 0 rfl rfl 2 (by decide) (mm_h hts mm_w217) (fun _ h9 => h9) rfl (tyX0_ok 2 (by decide)) rfl rfl (Nat.le_of_ble_eq_true rfl) dX0_wipe_12 ?_
  clear hP hD hS
  clear H locs
  intro H locs (hP : va_P G vwCl [(a_0, .inr (0, [.int 0, .int 0, .int 0, .int 0, .int 0, .int 0, .int 0, .int 0, .ref a_4, .ref a_5, .ref a_6, .ref a_7, .ref a_8, .ref a_9, .ref a_10, .ref a_11, .ref a_12, .ref a_13])), (a_6, .inl (cy 1, 3, .inl (fun _ => 0))), (a_8, .inl (cy 1, 6, .inl (fun _ => 0))), (a_10, .inl (cy 1, 30, .inl (fun _ => 0)))] H) (hD : va_D A [(a_0, .inr (0, [.int 0, .int 0, .int 0, .int 0, .int 0, .int 0, .int 0, .int 0, .ref a_4, .ref a_5, .ref a_6, .ref a_7, .ref a_8, .ref a_9, .ref a_10, .ref a_11, .ref a_12, .ref a_13])), (a_6, .inl (cy 1, 3, .inl (fun _ => 0))), (a_8, .inl (cy 1, 6, .inl (fun _ => 0))), (a_10, .inl (cy 1, 30, .inl (fun _ => 0)))]) hS
  refine lv_aload_n hx hb dX0_wipe_15 rfl (lv_at hl 0 rfl) ?_
  refine lv_iconst (v := 0) hx hb dX0_wipe_16 (by decide) ?_
  refine va_put (D := G) (ci := 0) (v := .int 0) (ty := tyX0 3) (C := RX0) (T := TX0) (N := 18) hx hb hts (mm_i inlX0) tyX0 tyX0_ok nmX0 hown hK.1 hP hD hS 0 rfl rfl 3 (by decide) (mm_h hts mm_w218) (fun _ h9 => h9) rfl (tyX0_ok 3 (by decide)) rfl rfl (Nat.le_of_ble_eq_true rfl) dX0_wipe_17 ?_
  clear hP hD hS
  clear H locs
  intro H locs (hP : va_P G vwCl [(a_0, .inr (0, [.int 0, .int 0, .int 0, .int 0, .int 0, .int 0, .int 0, .int 0, .ref a_4, .ref a_5, .ref a_6, .ref a_7, .ref a_8, .ref a_9, .ref a_10, .ref a_11, .ref a_12, .ref a_13])), (a_6, .inl (cy 1, 3, .inl (fun _ => 0))), (a_8, .inl (cy 1, 6, .inl (fun _ => 0))), (a_10, .inl (cy 1, 30, .inl (fun _ => 0)))] H) (hD : va_D A [(a_0, .inr (0, [.int 0, .int 0, .int 0, .int 0, .int 0, .int 0, .int 0, .int 0, .ref a_4, .ref a_5, .ref a_6, .ref a_7, .ref a_8, .ref a_9, .ref a_10, .ref a_11, .ref a_12, .ref a_13])), (a_6, .inl (cy 1, 3, .inl (fun _ => 0))), (a_8, .inl (cy 1, 6, .inl (fun _ => 0))), (a_10, .inl (cy 1, 30, .inl (fun _ => 0)))]) hS
  refine lv_aload_n hx hb dX0_wipe_20 rfl (lv_at hl 0 rfl) ?_
  refine lv_iconst (v := 0) hx hb dX0_wipe_21 (by decide) ?_
  refine va_put (D := G) (ci := 0) (v := .int 0) (ty := tyX0 4) (C := RX0) (T := TX0) (N := 18) hx hb hts (mm_i inlX0) tyX0 tyX0_ok nmX0 hown hK.1 hP hD hS 0 rfl rfl 4 (by decide) (mm_h hts mm_w219) (fun _ h9 => h9) rfl (tyX0_ok 4 (by decide)) rfl rfl (Nat.le_of_ble_eq_true rfl) dX0_wipe_22 ?_
  clear hP hD hS
  clear H locs
  intro H locs (hP : va_P G vwCl [(a_0, .inr (0, [.int 0, .int 0, .int 0, .int 0, .int 0, .int 0, .int 0, .int 0, .ref a_4, .ref a_5, .ref a_6, .ref a_7, .ref a_8, .ref a_9, .ref a_10, .ref a_11, .ref a_12, .ref a_13])), (a_6, .inl (cy 1, 3, .inl (fun _ => 0))), (a_8, .inl (cy 1, 6, .inl (fun _ => 0))), (a_10, .inl (cy 1, 30, .inl (fun _ => 0)))] H) (hD : va_D A [(a_0, .inr (0, [.int 0, .int 0, .int 0, .int 0, .int 0, .int 0, .int 0, .int 0, .ref a_4, .ref a_5, .ref a_6, .ref a_7, .ref a_8, .ref a_9, .ref a_10, .ref a_11, .ref a_12, .ref a_13])), (a_6, .inl (cy 1, 3, .inl (fun _ => 0))), (a_8, .inl (cy 1, 6, .inl (fun _ => 0))), (a_10, .inl (cy 1, 30, .inl (fun _ => 0)))]) hS
  refine lv_aload_n hx hb dX0_wipe_25 rfl (lv_at hl 0 rfl) ?_
  refine lv_iconst (v := 0) hx hb dX0_wipe_26 (by decide) ?_
  refine va_put (D := G) (ci := 0) (v := .int 0) (ty := tyX0 5) (C := RX0) (T := TX0) (N := 18) hx hb hts (mm_i inlX0) tyX0 tyX0_ok nmX0 hown hK.1 hP hD hS 0 rfl rfl 5 (by decide) (mm_h hts mm_w220) (fun _ h9 => h9) rfl (tyX0_ok 5 (by decide)) rfl rfl (Nat.le_of_ble_eq_true rfl) dX0_wipe_27 ?_
  clear hP hD hS
  clear H locs
  intro H locs (hP : va_P G vwCl [(a_0, .inr (0, [.int 0, .int 0, .int 0, .int 0, .int 0, .int 0, .int 0, .int 0, .ref a_4, .ref a_5, .ref a_6, .ref a_7, .ref a_8, .ref a_9, .ref a_10, .ref a_11, .ref a_12, .ref a_13])), (a_6, .inl (cy 1, 3, .inl (fun _ => 0))), (a_8, .inl (cy 1, 6, .inl (fun _ => 0))), (a_10, .inl (cy 1, 30, .inl (fun _ => 0)))] H) (hD : va_D A [(a_0, .inr (0, [.int 0, .int 0, .int 0, .int 0, .int 0, .int 0, .int 0, .int 0, .ref a_4, .ref a_5, .ref a_6, .ref a_7, .ref a_8, .ref a_9, .ref a_10, .ref a_11, .ref a_12, .ref a_13])), (a_6, .inl (cy 1, 3, .inl (fun _ => 0))), (a_8, .inl (cy 1, 6, .inl (fun _ => 0))), (a_10, .inl (cy 1, 30, .inl (fun _ => 0)))]) hS
  refine lv_aload_n hx hb dX0_wipe_30 rfl (lv_at hl 0 rfl) ?_
  refine lv_iconst (v := 0) hx hb dX0_wipe_31 (by decide) ?_
  refine va_put (D := G) (ci := 0) (v := .int 0) (ty := tyX0 6) (C := RX0) (T := TX0) (N := 18) hx hb hts (mm_i inlX0) tyX0 tyX0_ok nmX0 hown hK.1 hP hD hS 0 rfl rfl 6 (by decide) (mm_h hts mm_w221) (fun _ h9 => h9) rfl (tyX0_ok 6 (by decide)) rfl rfl (Nat.le_of_ble_eq_true rfl) dX0_wipe_32 ?_
  clear hP hD hS
  clear H locs
  intro H locs (hP : va_P G vwCl [(a_0, .inr (0, [.int 0, .int 0, .int 0, .int 0, .int 0, .int 0, .int 0, .int 0, .ref a_4, .ref a_5, .ref a_6, .ref a_7, .ref a_8, .ref a_9, .ref a_10, .ref a_11, .ref a_12, .ref a_13])), (a_6, .inl (cy 1, 3, .inl (fun _ => 0))), (a_8, .inl (cy 1, 6, .inl (fun _ => 0))), (a_10, .inl (cy 1, 30, .inl (fun _ => 0)))] H) (hD : va_D A [(a_0, .inr (0, [.int 0, .int 0, .int 0, .int 0, .int 0, .int 0, .int 0, .int 0, .ref a_4, .ref a_5, .ref a_6, .ref a_7, .ref a_8, .ref a_9, .ref a_10, .ref a_11, .ref a_12, .ref a_13])), (a_6, .inl (cy 1, 3, .inl (fun _ => 0))), (a_8, .inl (cy 1, 6, .inl (fun _ => 0))), (a_10, .inl (cy 1, 30, .inl (fun _ => 0)))]) hS
  refine lv_aload_n hx hb dX0_wipe_35 rfl (lv_at hl 0 rfl) ?_
  refine lv_iconst (v := 0) hx hb dX0_wipe_36 (by decide) ?_
  refine va_put (D := G) (ci := 0) (v := .int 0) (ty := tyX0 7) (C := RX0) (T := TX0) (N := 18) hx hb hts (mm_i inlX0) tyX0 tyX0_ok nmX0 hown hK.1 hP hD hS 0 rfl rfl 7 (by decide) (mm_h hts mm_w222) (fun _ h9 => h9) rfl (tyX0_ok 7 (by decide)) rfl rfl (Nat.le_of_ble_eq_true rfl) dX0_wipe_37 ?_
  clear hP hD hS
  clear H locs
  intro H locs (hP : va_P G vwCl [(a_0, .inr (0, [.int 0, .int 0, .int 0, .int 0, .int 0, .int 0, .int 0, .int 0, .ref a_4, .ref a_5, .ref a_6, .ref a_7, .ref a_8, .ref a_9, .ref a_10, .ref a_11, .ref a_12, .ref a_13])), (a_6, .inl (cy 1, 3, .inl (fun _ => 0))), (a_8, .inl (cy 1, 6, .inl (fun _ => 0))), (a_10, .inl (cy 1, 30, .inl (fun _ => 0)))] H) (hD : va_D A [(a_0, .inr (0, [.int 0, .int 0, .int 0, .int 0, .int 0, .int 0, .int 0, .int 0, .ref a_4, .ref a_5, .ref a_6, .ref a_7, .ref a_8, .ref a_9, .ref a_10, .ref a_11, .ref a_12, .ref a_13])), (a_6, .inl (cy 1, 3, .inl (fun _ => 0))), (a_8, .inl (cy 1, 6, .inl (fun _ => 0))), (a_10, .inl (cy 1, 30, .inl (fun _ => 0)))]) hS
  refine lv_aload_n hx hb dX0_wipe_40 rfl (lv_at hl 0 rfl) ?_
  refine va_get (D := G) (ci := 0) (v := .ref a_6) (C := RX0) (T := TX0) (N := 18) hx hb hts (mm_i inlX0) hown hK.1 hP 0 rfl rfl 10 (by decide) (mm_h hts mm_w74) (fun _ h9 => h9) rfl dX0_wipe_41 ?_
  refine lv_iconst (v := 0) hx hb dX0_wipe_44 (by decide) ?_
  refine mm_finv (va_runS (As := [.ref a_6, .int 0]) (rest := []) ⟨hx, hb, hml, hown, hts⟩ (K34_J7_fill_53178 l G cy H.size a_6 ) (va_cwS 2 hts (mm_gS mm_w223 mm_w224 mm_w225 mm_w226) rfl rfl rfl hs_J7_fill_53178 ⟨by rw [hRf]; exact Nat.le_of_ble_eq_true rfl, by rw [hRl]; exact Nat.le_of_ble_eq_true rfl⟩) (mm_preS hK hP hD [1] rfl rfl) rfl rfl hl.1 rfl (lv_room (Nat.le_of_ble_eq_true rfl)) dX0_wipe_45 ⟨by rw [hRc]; exact Nat.le_of_ble_eq_true rfl, by rw [hRs]; exact Nat.le_of_ble_eq_true rfl⟩) hP hD hS hA (fun u : (Nat → Int32) => [(a_0, .inr (0, [.int 0, .int 0, .int 0, .int 0, .int 0, .int 0, .int 0, .int 0, .ref a_4, .ref a_5, .ref a_6, .ref a_7, .ref a_8, .ref a_9, .ref a_10, .ref a_11, .ref a_12, .ref a_13])), (a_6, .inl (cy 1, 3, .inl u)), (a_8, .inl (cy 1, 6, .inl (fun _ => 0))), (a_10, .inl (cy 1, 30, .inl (fun _ => 0)))]) [1] [0, 2, 3] (n := 4) (fun _ => rfl) (by decide +kernel) (by decide +kernel) rfl (fun _ => rfl) (wr := [(a_0, .inr (0, [.int 0, .int 0, .int 0, .int 0, .int 0, .int 0, .int 0, .int 0, .ref a_4, .ref a_5, .ref a_6, .ref a_7, .ref a_8, .ref a_9, .ref a_10, .ref a_11, .ref a_12, .ref a_13])), (a_8, .inl (cy 1, 6, .inl (fun _ => 0))), (a_10, .inl (cy 1, 30, .inl (fun _ => 0)))]) rfl (fun _ => rfl) (fun _ => rfl) ?_
  clear hP hD hS
  clear H locs
  intro n1 H locs hw (hP : va_P G vwCl [(a_0, .inr (0, [.int 0, .int 0, .int 0, .int 0, .int 0, .int 0, .int 0, .int 0, .ref a_4, .ref a_5, .ref a_6, .ref a_7, .ref a_8, .ref a_9, .ref a_10, .ref a_11, .ref a_12, .ref a_13])), (a_6, .inl (cy 1, 3, .inl n1)), (a_8, .inl (cy 1, 6, .inl (fun _ => 0))), (a_10, .inl (cy 1, 30, .inl (fun _ => 0)))] H) (hD : va_D A [(a_0, .inr (0, [.int 0, .int 0, .int 0, .int 0, .int 0, .int 0, .int 0, .int 0, .ref a_4, .ref a_5, .ref a_6, .ref a_7, .ref a_8, .ref a_9, .ref a_10, .ref a_11, .ref a_12, .ref a_13])), (a_6, .inl (cy 1, 3, .inl n1)), (a_8, .inl (cy 1, 6, .inl (fun _ => 0))), (a_10, .inl (cy 1, 30, .inl (fun _ => 0)))]) hS
  have w2 := hw
  refine lv_aload_n hx hb dX0_wipe_48 rfl (lv_at hl 0 rfl) ?_
  refine va_get (D := G) (ci := 0) (v := .ref a_8) (C := RX0) (T := TX0) (N := 18) hx hb hts (mm_i inlX0) hown hK.1 hP 0 rfl rfl 12 (by decide) (mm_h hts mm_w76) (fun _ h9 => h9) rfl dX0_wipe_49 ?_
  refine lv_iconst (v := 0) hx hb dX0_wipe_52 (by decide) ?_
  refine mm_finv (va_runS (As := [.ref a_8, .int 0]) (rest := []) ⟨hx, hb, hml, hown, hts⟩ (K35_J7_fill_53178 l G cy H.size a_8 ) (va_cwS 2 hts (mm_gS mm_w223 mm_w224 mm_w225 mm_w226) rfl rfl rfl hs_J7_fill_53178 ⟨by rw [hRf]; exact Nat.le_of_ble_eq_true rfl, by rw [hRl]; exact Nat.le_of_ble_eq_true rfl⟩) (mm_preS hK hP hD [2] rfl rfl) rfl rfl hl.1 rfl (lv_room (Nat.le_of_ble_eq_true rfl)) dX0_wipe_53 ⟨by rw [hRc]; exact Nat.le_of_ble_eq_true rfl, by rw [hRs]; exact Nat.le_of_ble_eq_true rfl⟩) hP hD hS hA (fun u : (Nat → Int32) => [(a_0, .inr (0, [.int 0, .int 0, .int 0, .int 0, .int 0, .int 0, .int 0, .int 0, .ref a_4, .ref a_5, .ref a_6, .ref a_7, .ref a_8, .ref a_9, .ref a_10, .ref a_11, .ref a_12, .ref a_13])), (a_6, .inl (cy 1, 3, .inl n1)), (a_8, .inl (cy 1, 6, .inl u)), (a_10, .inl (cy 1, 30, .inl (fun _ => 0)))]) [2] [0, 1, 3] (n := 4) (fun _ => rfl) (by decide +kernel) (by decide +kernel) rfl (fun _ => rfl) (wr := [(a_0, .inr (0, [.int 0, .int 0, .int 0, .int 0, .int 0, .int 0, .int 0, .int 0, .ref a_4, .ref a_5, .ref a_6, .ref a_7, .ref a_8, .ref a_9, .ref a_10, .ref a_11, .ref a_12, .ref a_13])), (a_6, .inl (cy 1, 3, .inl n1)), (a_10, .inl (cy 1, 30, .inl (fun _ => 0)))]) rfl (fun _ => rfl) (fun _ => rfl) ?_
  clear hP hD hS
  clear H locs
  intro n3 H locs hw (hP : va_P G vwCl [(a_0, .inr (0, [.int 0, .int 0, .int 0, .int 0, .int 0, .int 0, .int 0, .int 0, .ref a_4, .ref a_5, .ref a_6, .ref a_7, .ref a_8, .ref a_9, .ref a_10, .ref a_11, .ref a_12, .ref a_13])), (a_6, .inl (cy 1, 3, .inl n1)), (a_8, .inl (cy 1, 6, .inl n3)), (a_10, .inl (cy 1, 30, .inl (fun _ => 0)))] H) (hD : va_D A [(a_0, .inr (0, [.int 0, .int 0, .int 0, .int 0, .int 0, .int 0, .int 0, .int 0, .ref a_4, .ref a_5, .ref a_6, .ref a_7, .ref a_8, .ref a_9, .ref a_10, .ref a_11, .ref a_12, .ref a_13])), (a_6, .inl (cy 1, 3, .inl n1)), (a_8, .inl (cy 1, 6, .inl n3)), (a_10, .inl (cy 1, 30, .inl (fun _ => 0)))]) hS
  have w4 := hw
  refine lv_iconst (v := 0) hx hb dX0_wipe_56 (by decide) ?_
  refine lv_istore_n (lv' := [(1, .int 0), (0, .ref a_0)]) hx hb dX0_wipe_57 rfl hl (by decide) rfl ?_
  clear hl
  clear ls
  intro ls hl
  have L58_37 : ∀ (n : Nat) (x58_1_36 : Int32) (z58_3_37 : Nat → Int32), mm_rg x58_1_36 0 30 → mm_ar z58_3_37 0 9 → (30 - x58_1_36.toInt).toNat < n → ∀ (H : Heap) (locs : List Loc), va_P G vwCl [(a_0, .inr (0, [.int 0, .int 0, .int 0, .int 0, .int 0, .int 0, .int 0, .int 0, .ref a_4, .ref a_5, .ref a_6, .ref a_7, .ref a_8, .ref a_9, .ref a_10, .ref a_11, .ref a_12, .ref a_13])), (a_6, .inl (cy 1, 3, .inl n1)), (a_8, .inl (cy 1, 6, .inl n3)), (a_10, .inl (cy 1, 30, .inl z58_3_37))] H → va_D A [(a_0, .inr (0, [.int 0, .int 0, .int 0, .int 0, .int 0, .int 0, .int 0, .int 0, .ref a_4, .ref a_5, .ref a_6, .ref a_7, .ref a_8, .ref a_9, .ref a_10, .ref a_11, .ref a_12, .ref a_13])), (a_6, .inl (cy 1, 3, .inl n1)), (a_8, .inl (cy 1, 6, .inl n3)), (a_10, .inl (cy 1, 30, .inl z58_3_37))] → va_S A s.heap H locs → ∀ (ls : Array Slot), lv_has ls 2 [(1, .int x58_1_36), (0, .ref a_0)] → W p l e R s m args below meth c H locs 0 0 Q (F0 m 58 ls []) := by
    intro n
    induction n with
    | zero => intro x58_1_36 z58_3_37 rx58_1_36 rz58_3_37 hm; exact absurd hm (Nat.not_lt_zero _)
    | succ n ih58 =>
      intro x58_1_36 z58_3_37 rx58_1_36 rz58_3_37 hm58 H locs hP hD hS ls hl
      refine lv_iload_n hx hb dX0_wipe_58 rfl (lv_at hl 0 rfl) ?_
      refine lv_aload_n hx hb dX0_wipe_59 rfl (lv_at hl 1 rfl) ?_
      refine va_get (D := G) (ci := 0) (v := .ref a_10) (C := RX0) (T := TX0) (N := 18) hx hb hts (mm_i inlX0) hown hK.1 hP 0 rfl rfl 14 (by decide) (mm_h hts mm_w78) (fun _ h9 => h9) rfl dX0_wipe_60 ?_
      refine va_alen (v := 30) hx hb hK.1 hP 3 1 rfl rfl rfl dX0_wipe_63 ?_
      refine lv_icmp_ge (tgt := 83) hx hb dX0_wipe_64 (by decide) (fun c39 => ?_) (fun c39 => ?_)
      · have q40 := mm_leR (mm_le c39) mm_k30 rx58_1_36
        subst hAe
        rw [hQ]
        exact W.vret hx hb hr (fun t ht hW => ⟨⟨(n1, n3, z58_3_37), rfl, ⟨w2, w4, rz58_3_37⟩, by rw [ht]; exact hP, hK.warm hW, hD⟩, hS.F ht⟩) hS.2.2 dX0_wipe_83
      · have q41 := mm_ltL (h := 29) (mm_nle c39) rx58_1_36 mm_k30 (by decide)
        refine lv_aload_n hx hb dX0_wipe_67 rfl (lv_at hl 1 rfl) ?_
        refine va_get (D := G) (ci := 0) (v := .ref a_10) (C := RX0) (T := TX0) (N := 18) hx hb hts (mm_i inlX0) hown hK.1 hP 0 rfl rfl 14 (by decide) (mm_h hts mm_w78) (fun _ h9 => h9) rfl dX0_wipe_68 ?_
        refine lv_iload_n hx hb dX0_wipe_71 rfl (lv_at hl 0 rfl) ?_
        refine lv_iload_n hx hb dX0_wipe_72 rfl (lv_at hl 0 rfl) ?_
        refine lv_bipush (v := 10) hx hb dX0_wipe_73 (by decide) ?_
        refine lv_irem hx hb dX0_wipe_75 (mm_nz mm_k10 (by decide)) ?_
        refine lv_topi (fun v42 ev42 => ?_)
        have rv42 : mm_rg v42 0 9 := mm_rem ev42 q41 mm_k10 (by decide) (by decide)
        refine va_iast hx hb hK.1 hP hD hS 3 1 rfl rfl (mm_in q41 (by decide)) dX0_wipe_76 ?_
        clear hP hD hS
        clear H locs
        obtain ⟨g43, eg43⟩ : ∃ z : Nat → Int32, z = upd z58_3_37 x58_1_36.toNatClampNeg v42 := ⟨_, rfl⟩
        rw [← eg43]
        intro H locs (hP : va_P G vwCl [(a_0, .inr (0, [.int 0, .int 0, .int 0, .int 0, .int 0, .int 0, .int 0, .int 0, .ref a_4, .ref a_5, .ref a_6, .ref a_7, .ref a_8, .ref a_9, .ref a_10, .ref a_11, .ref a_12, .ref a_13])), (a_6, .inl (cy 1, 3, .inl n1)), (a_8, .inl (cy 1, 6, .inl n3)), (a_10, .inl (cy 1, 30, .inl g43))] H) (hD : va_D A [(a_0, .inr (0, [.int 0, .int 0, .int 0, .int 0, .int 0, .int 0, .int 0, .int 0, .ref a_4, .ref a_5, .ref a_6, .ref a_7, .ref a_8, .ref a_9, .ref a_10, .ref a_11, .ref a_12, .ref a_13])), (a_6, .inl (cy 1, 3, .inl n1)), (a_8, .inl (cy 1, 6, .inl n3)), (a_10, .inl (cy 1, 30, .inl g43))]) hS
        have rg43 : mm_ar g43 0 9 := by rw [eg43]; exact mm_ar_upd (mm_ar_wk rz58_3_37 (by decide)) (mm_wk rv42 (by decide)) _
        obtain ⟨v44, ev44⟩ : ∃ y : Int32, y = x58_1_36 + 1 := ⟨_, rfl⟩
        refine lv_iinc (v := v44) (lv' := [(1, .int v44), (0, .ref a_0)]) hx hb dX0_wipe_77 hl (k := 0) rfl (by rw [ev44]; rfl) (by decide) rfl ?_
        clear hl
        clear ls
        intro ls hl
        have rv44 : mm_rg v44 1 30 := mm_add ev44 q41 mm_k1 (by decide) (by decide)
        have tv44 := mm_addE ev44 q41 mm_k1 (by decide)
        refine lv_goto (tgt := 58) hx hb dX0_wipe_80 (by decide) ?_
        exact ih58 v44 g43 (mm_wk rv44 (by decide)) rg43 (mm_mu hm58 tv44 (by decide) (rv44).2 (by decide)) H locs hP hD hS ls (lv_sub hl [0, 1] rfl)
  exact L58_37 _ 0 (fun _ => 0) (mm_wk mm_k0 (by decide)) (mm_ar_wk (mm_ar_c mm_k0) (by decide)) (Nat.lt_succ_self _) H locs hP hD hS ls (lv_sub hl [0, 1] rfl)

