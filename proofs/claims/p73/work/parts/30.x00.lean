theorem dJ7_fill_53178_0 : decode cJ7_fill_53178 0 = .ok (.iconst 0, 1) := by decide +kernel
theorem dJ7_fill_53178_1 : decode cJ7_fill_53178 1 = .ok (.istore_n 2, 1) := by decide +kernel
theorem dJ7_fill_53178_2 : decode cJ7_fill_53178 2 = .ok (.aload_n 0, 1) := by decide +kernel
theorem dJ7_fill_53178_3 : decode cJ7_fill_53178 3 = .ok (.arraylength, 1) := by decide +kernel
theorem dJ7_fill_53178_4 : decode cJ7_fill_53178 4 = .ok (.istore_n 3, 1) := by decide +kernel
theorem dJ7_fill_53178_5 : decode cJ7_fill_53178 5 = .ok (.iload_n 2, 1) := by decide +kernel
theorem dJ7_fill_53178_6 : decode cJ7_fill_53178 6 = .ok (.iload_n 3, 1) := by decide +kernel
theorem dJ7_fill_53178_7 : decode cJ7_fill_53178 7 = .ok (.if_icmp .ge 13, 3) := by decide +kernel
theorem dJ7_fill_53178_10 : decode cJ7_fill_53178 10 = .ok (.aload_n 0, 1) := by decide +kernel
theorem dJ7_fill_53178_11 : decode cJ7_fill_53178 11 = .ok (.iload_n 2, 1) := by decide +kernel
theorem dJ7_fill_53178_12 : decode cJ7_fill_53178 12 = .ok (.iload_n 1, 1) := by decide +kernel
theorem dJ7_fill_53178_13 : decode cJ7_fill_53178 13 = .ok (.iastore, 1) := by decide +kernel
theorem dJ7_fill_53178_14 : decode cJ7_fill_53178 14 = .ok (.iinc 2 1, 3) := by decide +kernel
theorem dJ7_fill_53178_17 : decode cJ7_fill_53178 17 = .ok (.goto (-12), 3) := by decide +kernel
theorem dJ7_fill_53178_20 : decode cJ7_fill_53178 20 = .ok (.return_, 1) := by decide +kernel
theorem dX0_wipe_0 : decode cX0_wipe 0 = .ok (.aload_n 0, 1) := by decide +kernel
theorem dX0_wipe_1 : decode cX0_wipe 1 = .ok (.iconst 0, 1) := by decide +kernel
theorem dX0_wipe_2 : decode cX0_wipe 2 = .ok (.putfield 42, 3) := by decide +kernel
theorem dX0_wipe_5 : decode cX0_wipe 5 = .ok (.aload_n 0, 1) := by decide +kernel
theorem dX0_wipe_6 : decode cX0_wipe 6 = .ok (.iconst 0, 1) := by decide +kernel
theorem dX0_wipe_7 : decode cX0_wipe 7 = .ok (.putfield 46, 3) := by decide +kernel
theorem dX0_wipe_10 : decode cX0_wipe 10 = .ok (.aload_n 0, 1) := by decide +kernel
theorem dX0_wipe_11 : decode cX0_wipe 11 = .ok (.iconst 0, 1) := by decide +kernel
theorem dX0_wipe_12 : decode cX0_wipe 12 = .ok (.putfield 49, 3) := by decide +kernel
theorem dX0_wipe_15 : decode cX0_wipe 15 = .ok (.aload_n 0, 1) := by decide +kernel
theorem dX0_wipe_16 : decode cX0_wipe 16 = .ok (.iconst 0, 1) := by decide +kernel
theorem dX0_wipe_17 : decode cX0_wipe 17 = .ok (.putfield 52, 3) := by decide +kernel
theorem dX0_wipe_20 : decode cX0_wipe 20 = .ok (.aload_n 0, 1) := by decide +kernel
theorem dX0_wipe_21 : decode cX0_wipe 21 = .ok (.iconst 0, 1) := by decide +kernel
theorem dX0_wipe_22 : decode cX0_wipe 22 = .ok (.putfield 55, 3) := by decide +kernel
theorem dX0_wipe_25 : decode cX0_wipe 25 = .ok (.aload_n 0, 1) := by decide +kernel
theorem dX0_wipe_26 : decode cX0_wipe 26 = .ok (.iconst 0, 1) := by decide +kernel
theorem dX0_wipe_27 : decode cX0_wipe 27 = .ok (.putfield 58, 3) := by decide +kernel
theorem dX0_wipe_30 : decode cX0_wipe 30 = .ok (.aload_n 0, 1) := by decide +kernel
theorem dX0_wipe_31 : decode cX0_wipe 31 = .ok (.iconst 0, 1) := by decide +kernel
theorem dX0_wipe_32 : decode cX0_wipe 32 = .ok (.putfield 61, 3) := by decide +kernel
theorem dX0_wipe_35 : decode cX0_wipe 35 = .ok (.aload_n 0, 1) := by decide +kernel
theorem dX0_wipe_36 : decode cX0_wipe 36 = .ok (.iconst 0, 1) := by decide +kernel
theorem dX0_wipe_37 : decode cX0_wipe 37 = .ok (.putfield 64, 3) := by decide +kernel
theorem dX0_wipe_40 : decode cX0_wipe 40 = .ok (.aload_n 0, 1) := by decide +kernel
theorem dX0_wipe_41 : decode cX0_wipe 41 = .ok (.getfield 18, 3) := by decide +kernel
theorem dX0_wipe_44 : decode cX0_wipe 44 = .ok (.iconst 0, 1) := by decide +kernel
theorem dX0_wipe_45 : decode cX0_wipe 45 = .ok (.invokestatic 67, 3) := by decide +kernel
theorem dX0_wipe_48 : decode cX0_wipe 48 = .ok (.aload_n 0, 1) := by decide +kernel
theorem dX0_wipe_49 : decode cX0_wipe 49 = .ok (.getfield 24, 3) := by decide +kernel
theorem dX0_wipe_52 : decode cX0_wipe 52 = .ok (.iconst 0, 1) := by decide +kernel
theorem dX0_wipe_53 : decode cX0_wipe 53 = .ok (.invokestatic 67, 3) := by decide +kernel
theorem dX0_wipe_56 : decode cX0_wipe 56 = .ok (.iconst 0, 1) := by decide +kernel
theorem dX0_wipe_57 : decode cX0_wipe 57 = .ok (.istore_n 1, 1) := by decide +kernel
theorem dX0_wipe_58 : decode cX0_wipe 58 = .ok (.iload_n 1, 1) := by decide +kernel
theorem dX0_wipe_59 : decode cX0_wipe 59 = .ok (.aload_n 0, 1) := by decide +kernel
theorem dX0_wipe_60 : decode cX0_wipe 60 = .ok (.getfield 30, 3) := by decide +kernel
theorem dX0_wipe_63 : decode cX0_wipe 63 = .ok (.arraylength, 1) := by decide +kernel
theorem dX0_wipe_64 : decode cX0_wipe 64 = .ok (.if_icmp .ge 19, 3) := by decide +kernel
theorem dX0_wipe_67 : decode cX0_wipe 67 = .ok (.aload_n 0, 1) := by decide +kernel
theorem dX0_wipe_68 : decode cX0_wipe 68 = .ok (.getfield 30, 3) := by decide +kernel
theorem dX0_wipe_71 : decode cX0_wipe 71 = .ok (.iload_n 1, 1) := by decide +kernel
theorem dX0_wipe_72 : decode cX0_wipe 72 = .ok (.iload_n 1, 1) := by decide +kernel
theorem dX0_wipe_73 : decode cX0_wipe 73 = .ok (.bipush 10, 2) := by decide +kernel
theorem dX0_wipe_75 : decode cX0_wipe 75 = .ok (.irem, 1) := by decide +kernel
theorem dX0_wipe_76 : decode cX0_wipe 76 = .ok (.iastore, 1) := by decide +kernel
theorem dX0_wipe_77 : decode cX0_wipe 77 = .ok (.iinc 1 1, 3) := by decide +kernel
theorem dX0_wipe_80 : decode cX0_wipe 80 = .ok (.goto (-22), 3) := by decide +kernel
theorem dX0_wipe_83 : decode cX0_wipe 83 = .ok (.return_, 1) := by decide +kernel
theorem dX11_end_0 : decode cX11_end 0 = .ok (.iload_n 1, 1) := by decide +kernel
theorem dX11_end_1 : decode cX11_end 1 = .ok (.ifCond .lt 14, 3) := by decide +kernel
theorem dX11_end_4 : decode cX11_end 4 = .ok (.iload_n 1, 1) := by decide +kernel
theorem dX11_end_5 : decode cX11_end 5 = .ok (.aload_n 0, 1) := by decide +kernel
theorem dX11_end_6 : decode cX11_end 6 = .ok (.getfield 10, 3) := by decide +kernel
theorem dX11_end_9 : decode cX11_end 9 = .ok (.getfield 89, 3) := by decide +kernel
theorem dX11_end_12 : decode cX11_end 12 = .ok (.if_icmp .le 5, 3) := by decide +kernel
theorem dX11_end_15 : decode cX11_end 15 = .ok (.iconst (-1), 1) := by decide +kernel
theorem dX11_end_16 : decode cX11_end 16 = .ok (.ireturn, 1) := by decide +kernel
theorem dX11_end_17 : decode cX11_end 17 = .ok (.aload_n 0, 1) := by decide +kernel
theorem dX11_end_18 : decode cX11_end 18 = .ok (.getfield 10, 3) := by decide +kernel
theorem dX11_end_21 : decode cX11_end 21 = .ok (.iload_n 1, 1) := by decide +kernel
theorem dX11_end_22 : decode cX11_end 22 = .ok (.putfield 89, 3) := by decide +kernel
theorem dX11_end_25 : decode cX11_end 25 = .ok (.iload_n 1, 1) := by decide +kernel
theorem dX11_end_26 : decode cX11_end 26 = .ok (.ireturn, 1) := by decide +kernel
theorem dX11_feed_0 : decode cX11_feed 0 = .ok (.aload_n 0, 1) := by decide +kernel
theorem dX11_feed_1 : decode cX11_feed 1 = .ok (.getfield 10, 3) := by decide +kernel
theorem dX11_feed_4 : decode cX11_feed 4 = .ok (.getfield 89, 3) := by decide +kernel
theorem dX11_feed_7 : decode cX11_feed 7 = .ok (.bipush 20, 2) := by decide +kernel
theorem dX11_feed_9 : decode cX11_feed 9 = .ok (.iadd, 1) := by decide +kernel
theorem dX11_feed_10 : decode cX11_feed 10 = .ok (.sipush 600, 3) := by decide +kernel
theorem dX11_feed_13 : decode cX11_feed 13 = .ok (.if_icmp .le 5, 3) := by decide +kernel
theorem dX11_feed_16 : decode cX11_feed 16 = .ok (.iconst (-1), 1) := by decide +kernel
theorem dX11_feed_17 : decode cX11_feed 17 = .ok (.ireturn, 1) := by decide +kernel
theorem dX11_feed_18 : decode cX11_feed 18 = .ok (.aload_n 0, 1) := by decide +kernel
theorem dX11_feed_19 : decode cX11_feed 19 = .ok (.getfield 10, 3) := by decide +kernel
theorem dX11_feed_22 : decode cX11_feed 22 = .ok (.iload_n 1, 1) := by decide +kernel
theorem dX11_feed_23 : decode cX11_feed 23 = .ok (.invokevirtual 93, 3) := by decide +kernel
theorem dX11_feed_26 : decode cX11_feed 26 = .ok (.aload_n 0, 1) := by decide +kernel
theorem dX11_feed_27 : decode cX11_feed 27 = .ok (.getfield 10, 3) := by decide +kernel
theorem dX11_feed_30 : decode cX11_feed 30 = .ok (.iload_n 2, 1) := by decide +kernel
theorem dX11_feed_31 : decode cX11_feed 31 = .ok (.invokevirtual 93, 3) := by decide +kernel
theorem dX11_feed_34 : decode cX11_feed 34 = .ok (.aload_n 0, 1) := by decide +kernel
theorem dX11_feed_35 : decode cX11_feed 35 = .ok (.getfield 10, 3) := by decide +kernel
theorem dX11_feed_38 : decode cX11_feed 38 = .ok (.iload_n 3, 1) := by decide +kernel
theorem dX11_feed_39 : decode cX11_feed 39 = .ok (.invokevirtual 93, 3) := by decide +kernel
theorem dX11_feed_42 : decode cX11_feed 42 = .ok (.aload_n 0, 1) := by decide +kernel
theorem dX11_feed_43 : decode cX11_feed 43 = .ok (.getfield 10, 3) := by decide +kernel
theorem dX11_feed_46 : decode cX11_feed 46 = .ok (.iload 4, 2) := by decide +kernel
theorem dX11_feed_48 : decode cX11_feed 48 = .ok (.invokevirtual 93, 3) := by decide +kernel
theorem dX11_feed_51 : decode cX11_feed 51 = .ok (.aload_n 0, 1) := by decide +kernel
theorem dX11_feed_52 : decode cX11_feed 52 = .ok (.getfield 10, 3) := by decide +kernel
theorem dX11_feed_55 : decode cX11_feed 55 = .ok (.iload 5, 2) := by decide +kernel
theorem dX11_feed_57 : decode cX11_feed 57 = .ok (.invokevirtual 93, 3) := by decide +kernel
theorem dX11_feed_60 : decode cX11_feed 60 = .ok (.aload_n 0, 1) := by decide +kernel
theorem dX11_feed_61 : decode cX11_feed 61 = .ok (.getfield 10, 3) := by decide +kernel
theorem dX11_feed_64 : decode cX11_feed 64 = .ok (.getfield 89, 3) := by decide +kernel
theorem dX11_feed_67 : decode cX11_feed 67 = .ok (.ireturn, 1) := by decide +kernel
theorem dX7_nextToken_0 : decode cX7_nextToken 0 = .ok (.aload_n 0, 1) := by decide +kernel
theorem dX7_nextToken_1 : decode cX7_nextToken 1 = .ok (.getfield 32, 3) := by decide +kernel
theorem dX7_nextToken_4 : decode cX7_nextToken 4 = .ok (.istore_n 1, 1) := by decide +kernel
theorem dX7_nextToken_5 : decode cX7_nextToken 5 = .ok (.iload_n 1, 1) := by decide +kernel
theorem dX7_nextToken_6 : decode cX7_nextToken 6 = .ok (.aload_n 0, 1) := by decide +kernel
theorem dX7_nextToken_7 : decode cX7_nextToken 7 = .ok (.getfield 22, 3) := by decide +kernel
theorem dX7_nextToken_10 : decode cX7_nextToken 10 = .ok (.getfield 178, 3) := by decide +kernel
theorem dX7_nextToken_13 : decode cX7_nextToken 13 = .ok (.if_icmp .ge 18, 3) := by decide +kernel
theorem dX7_nextToken_16 : decode cX7_nextToken 16 = .ok (.aload_n 0, 1) := by decide +kernel
theorem dX7_nextToken_17 : decode cX7_nextToken 17 = .ok (.iload_n 1, 1) := by decide +kernel
theorem dX7_nextToken_18 : decode cX7_nextToken 18 = .ok (.invokevirtual 190, 3) := by decide +kernel
theorem dX7_nextToken_21 : decode cX7_nextToken 21 = .ok (.iconst 1, 1) := by decide +kernel
theorem dX7_nextToken_22 : decode cX7_nextToken 22 = .ok (.if_icmp .ne 9, 3) := by decide +kernel
theorem dX7_nextToken_25 : decode cX7_nextToken 25 = .ok (.iinc 1 1, 3) := by decide +kernel
theorem dX7_nextToken_28 : decode cX7_nextToken 28 = .ok (.goto (-23), 3) := by decide +kernel
theorem dX7_nextToken_31 : decode cX7_nextToken 31 = .ok (.aload_n 0, 1) := by decide +kernel
theorem dX7_nextToken_32 : decode cX7_nextToken 32 = .ok (.aload_n 0, 1) := by decide +kernel
theorem dX7_nextToken_33 : decode cX7_nextToken 33 = .ok (.iload_n 1, 1) := by decide +kernel
theorem dX7_nextToken_34 : decode cX7_nextToken 34 = .ok (.invokevirtual 190, 3) := by decide +kernel
theorem dX7_nextToken_37 : decode cX7_nextToken 37 = .ok (.putfield 38, 3) := by decide +kernel
theorem dX7_nextToken_40 : decode cX7_nextToken 40 = .ok (.iload_n 1, 1) := by decide +kernel
theorem dX7_nextToken_41 : decode cX7_nextToken 41 = .ok (.aload_n 0, 1) := by decide +kernel
theorem dX7_nextToken_42 : decode cX7_nextToken 42 = .ok (.getfield 22, 3) := by decide +kernel
theorem dX7_nextToken_45 : decode cX7_nextToken 45 = .ok (.getfield 178, 3) := by decide +kernel
theorem dX7_nextToken_48 : decode cX7_nextToken 48 = .ok (.if_icmp .ge 9, 3) := by decide +kernel
theorem dX7_nextToken_51 : decode cX7_nextToken 51 = .ok (.iload_n 1, 1) := by decide +kernel
theorem dX7_nextToken_52 : decode cX7_nextToken 52 = .ok (.iconst 1, 1) := by decide +kernel
theorem dX7_nextToken_53 : decode cX7_nextToken 53 = .ok (.iadd, 1) := by decide +kernel
theorem dX7_nextToken_54 : decode cX7_nextToken 54 = .ok (.goto 4, 3) := by decide +kernel
theorem dX7_nextToken_57 : decode cX7_nextToken 57 = .ok (.iload_n 1, 1) := by decide +kernel
theorem dX7_nextToken_58 : decode cX7_nextToken 58 = .ok (.istore_n 2, 1) := by decide +kernel
theorem dX7_nextToken_59 : decode cX7_nextToken 59 = .ok (.aload_n 0, 1) := by decide +kernel
theorem dX7_nextToken_60 : decode cX7_nextToken 60 = .ok (.getfield 38, 3) := by decide +kernel
theorem dX7_nextToken_63 : decode cX7_nextToken 63 = .ok (.iconst 2, 1) := by decide +kernel
theorem dX7_nextToken_64 : decode cX7_nextToken 64 = .ok (.if_icmp .eq 11, 3) := by decide +kernel
theorem dX7_nextToken_67 : decode cX7_nextToken 67 = .ok (.aload_n 0, 1) := by decide +kernel
theorem dX7_nextToken_68 : decode cX7_nextToken 68 = .ok (.getfield 38, 3) := by decide +kernel
theorem dX7_nextToken_71 : decode cX7_nextToken 71 = .ok (.iconst 3, 1) := by decide +kernel
theorem dX7_nextToken_72 : decode cX7_nextToken 72 = .ok (.if_icmp .ne 7, 3) := by decide +kernel
theorem dX7_nextToken_75 : decode cX7_nextToken 75 = .ok (.iconst 1, 1) := by decide +kernel
theorem dX7_nextToken_76 : decode cX7_nextToken 76 = .ok (.goto 4, 3) := by decide +kernel
theorem dX7_nextToken_79 : decode cX7_nextToken 79 = .ok (.iconst 0, 1) := by decide +kernel
theorem dX7_nextToken_80 : decode cX7_nextToken 80 = .ok (.istore_n 3, 1) := by decide +kernel
theorem dX7_nextToken_81 : decode cX7_nextToken 81 = .ok (.iload_n 3, 1) := by decide +kernel
theorem dX7_nextToken_82 : decode cX7_nextToken 82 = .ok (.ifCond .eq 32, 3) := by decide +kernel
theorem dX7_nextToken_85 : decode cX7_nextToken 85 = .ok (.iload_n 2, 1) := by decide +kernel
theorem dX7_nextToken_86 : decode cX7_nextToken 86 = .ok (.aload_n 0, 1) := by decide +kernel
theorem dX7_nextToken_87 : decode cX7_nextToken 87 = .ok (.getfield 22, 3) := by decide +kernel
theorem dX7_nextToken_90 : decode cX7_nextToken 90 = .ok (.getfield 178, 3) := by decide +kernel
theorem dX7_nextToken_93 : decode cX7_nextToken 93 = .ok (.if_icmp .ge 21, 3) := by decide +kernel
theorem dX7_nextToken_96 : decode cX7_nextToken 96 = .ok (.aload_n 0, 1) := by decide +kernel
theorem dX7_nextToken_97 : decode cX7_nextToken 97 = .ok (.iload_n 2, 1) := by decide +kernel
theorem dX7_nextToken_98 : decode cX7_nextToken 98 = .ok (.invokevirtual 190, 3) := by decide +kernel
theorem dX7_nextToken_101 : decode cX7_nextToken 101 = .ok (.aload_n 0, 1) := by decide +kernel
theorem dX7_nextToken_102 : decode cX7_nextToken 102 = .ok (.getfield 38, 3) := by decide +kernel
theorem dX7_nextToken_105 : decode cX7_nextToken 105 = .ok (.if_icmp .ne 9, 3) := by decide +kernel
theorem dX7_nextToken_108 : decode cX7_nextToken 108 = .ok (.iinc 2 1, 3) := by decide +kernel
theorem dX7_nextToken_111 : decode cX7_nextToken 111 = .ok (.goto (-30), 3) := by decide +kernel
theorem dX7_nextToken_114 : decode cX7_nextToken 114 = .ok (.aload_n 0, 1) := by decide +kernel
theorem dX7_nextToken_115 : decode cX7_nextToken 115 = .ok (.iload_n 1, 1) := by decide +kernel
theorem dX7_nextToken_116 : decode cX7_nextToken 116 = .ok (.putfield 170, 3) := by decide +kernel
theorem dX7_nextToken_119 : decode cX7_nextToken 119 = .ok (.aload_n 0, 1) := by decide +kernel
theorem dX7_nextToken_120 : decode cX7_nextToken 120 = .ok (.iload_n 2, 1) := by decide +kernel
theorem dX7_nextToken_121 : decode cX7_nextToken 121 = .ok (.putfield 32, 3) := by decide +kernel
theorem dX7_nextToken_124 : decode cX7_nextToken 124 = .ok (.aload_n 0, 1) := by decide +kernel
theorem dX7_nextToken_125 : decode cX7_nextToken 125 = .ok (.aload_n 0, 1) := by decide +kernel
theorem dX7_nextToken_126 : decode cX7_nextToken 126 = .ok (.getfield 38, 3) := by decide +kernel
theorem dX7_nextToken_129 : decode cX7_nextToken 129 = .ok (.iconst 3, 1) := by decide +kernel
theorem dX7_nextToken_130 : decode cX7_nextToken 130 = .ok (.if_icmp .ne 10, 3) := by decide +kernel
theorem dX7_nextToken_133 : decode cX7_nextToken 133 = .ok (.aload_n 0, 1) := by decide +kernel
theorem dX7_nextToken_134 : decode cX7_nextToken 134 = .ok (.invokevirtual 194, 3) := by decide +kernel
theorem dX7_nextToken_137 : decode cX7_nextToken 137 = .ok (.goto 4, 3) := by decide +kernel
theorem dX7_nextToken_140 : decode cX7_nextToken 140 = .ok (.iconst 0, 1) := by decide +kernel
theorem dX7_nextToken_141 : decode cX7_nextToken 141 = .ok (.putfield 167, 3) := by decide +kernel
theorem dX7_nextToken_144 : decode cX7_nextToken 144 = .ok (.return_, 1) := by decide +kernel
theorem dX7_numberTold_0 : decode cX7_numberTold 0 = .ok (.iconst 0, 1) := by decide +kernel
theorem dX7_numberTold_1 : decode cX7_numberTold 1 = .ok (.istore_n 1, 1) := by decide +kernel
theorem dX7_numberTold_2 : decode cX7_numberTold 2 = .ok (.aload_n 0, 1) := by decide +kernel
theorem dX7_numberTold_3 : decode cX7_numberTold 3 = .ok (.getfield 170, 3) := by decide +kernel
theorem dX7_numberTold_6 : decode cX7_numberTold 6 = .ok (.istore_n 2, 1) := by decide +kernel
theorem dX7_numberTold_7 : decode cX7_numberTold 7 = .ok (.iload_n 2, 1) := by decide +kernel
theorem dX7_numberTold_8 : decode cX7_numberTold 8 = .ok (.aload_n 0, 1) := by decide +kernel
theorem dX7_numberTold_9 : decode cX7_numberTold 9 = .ok (.getfield 32, 3) := by decide +kernel
theorem dX7_numberTold_12 : decode cX7_numberTold 12 = .ok (.if_icmp .ge 33, 3) := by decide +kernel
theorem dX7_numberTold_15 : decode cX7_numberTold 15 = .ok (.iload_n 1, 1) := by decide +kernel
theorem dX7_numberTold_16 : decode cX7_numberTold 16 = .ok (.ldc 197, 2) := by decide +kernel
theorem dX7_numberTold_18 : decode cX7_numberTold 18 = .ok (.if_icmp .ge 27, 3) := by decide +kernel
theorem dX7_numberTold_21 : decode cX7_numberTold 21 = .ok (.bipush 10, 2) := by decide +kernel
theorem dX7_numberTold_23 : decode cX7_numberTold 23 = .ok (.iload_n 1, 1) := by decide +kernel
theorem dX7_numberTold_24 : decode cX7_numberTold 24 = .ok (.imul, 1) := by decide +kernel
theorem dX7_numberTold_25 : decode cX7_numberTold 25 = .ok (.aload_n 0, 1) := by decide +kernel
theorem dX7_numberTold_26 : decode cX7_numberTold 26 = .ok (.getfield 22, 3) := by decide +kernel
theorem dX7_numberTold_29 : decode cX7_numberTold 29 = .ok (.getfield 182, 3) := by decide +kernel
theorem dX7_numberTold_32 : decode cX7_numberTold 32 = .ok (.iload_n 2, 1) := by decide +kernel
theorem dX7_numberTold_33 : decode cX7_numberTold 33 = .ok (.baload, 1) := by decide +kernel
theorem dX7_numberTold_34 : decode cX7_numberTold 34 = .ok (.iadd, 1) := by decide +kernel
theorem dX7_numberTold_35 : decode cX7_numberTold 35 = .ok (.bipush 48, 2) := by decide +kernel
theorem dX7_numberTold_37 : decode cX7_numberTold 37 = .ok (.isub, 1) := by decide +kernel
theorem dX7_numberTold_38 : decode cX7_numberTold 38 = .ok (.istore_n 1, 1) := by decide +kernel
theorem dX7_numberTold_39 : decode cX7_numberTold 39 = .ok (.iinc 2 1, 3) := by decide +kernel
theorem dX7_numberTold_42 : decode cX7_numberTold 42 = .ok (.goto (-35), 3) := by decide +kernel
theorem dX7_numberTold_45 : decode cX7_numberTold 45 = .ok (.iload_n 1, 1) := by decide +kernel
theorem dX7_numberTold_46 : decode cX7_numberTold 46 = .ok (.ireturn, 1) := by decide +kernel
theorem dX7_partAt_0 : decode cX7_partAt 0 = .ok (.iload_n 1, 1) := by decide +kernel
theorem dX7_partAt_1 : decode cX7_partAt 1 = .ok (.ifCond .lt 14, 3) := by decide +kernel
theorem dX7_partAt_4 : decode cX7_partAt 4 = .ok (.iload_n 1, 1) := by decide +kernel
theorem dX7_partAt_5 : decode cX7_partAt 5 = .ok (.aload_n 0, 1) := by decide +kernel
theorem dX7_partAt_6 : decode cX7_partAt 6 = .ok (.getfield 22, 3) := by decide +kernel
theorem dX7_partAt_9 : decode cX7_partAt 9 = .ok (.getfield 178, 3) := by decide +kernel
theorem dX7_partAt_12 : decode cX7_partAt 12 = .ok (.if_icmp .lt 5, 3) := by decide +kernel
theorem dX7_partAt_15 : decode cX7_partAt 15 = .ok (.iconst 0, 1) := by decide +kernel
theorem dX7_partAt_16 : decode cX7_partAt 16 = .ok (.ireturn, 1) := by decide +kernel
theorem dX7_partAt_17 : decode cX7_partAt 17 = .ok (.aload_n 0, 1) := by decide +kernel
theorem dX7_partAt_18 : decode cX7_partAt 18 = .ok (.getfield 22, 3) := by decide +kernel
theorem dX7_partAt_21 : decode cX7_partAt 21 = .ok (.getfield 182, 3) := by decide +kernel
theorem dX7_partAt_24 : decode cX7_partAt 24 = .ok (.iload_n 1, 1) := by decide +kernel
theorem dX7_partAt_25 : decode cX7_partAt 25 = .ok (.baload, 1) := by decide +kernel
theorem dX7_partAt_26 : decode cX7_partAt 26 = .ok (.istore_n 2, 1) := by decide +kernel
theorem dX7_partAt_27 : decode cX7_partAt 27 = .ok (.iload_n 2, 1) := by decide +kernel
theorem dX7_partAt_28 : decode cX7_partAt 28 = .ok (.bipush 32, 2) := by decide +kernel
theorem dX7_partAt_30 : decode cX7_partAt 30 = .ok (.if_icmp .eq 9, 3) := by decide +kernel
theorem dX7_partAt_33 : decode cX7_partAt 33 = .ok (.iload_n 2, 1) := by decide +kernel
theorem dX7_partAt_34 : decode cX7_partAt 34 = .ok (.bipush 10, 2) := by decide +kernel
theorem dX7_partAt_36 : decode cX7_partAt 36 = .ok (.if_icmp .ne 5, 3) := by decide +kernel
theorem dX7_partAt_39 : decode cX7_partAt 39 = .ok (.iconst 1, 1) := by decide +kernel
theorem dX7_partAt_40 : decode cX7_partAt 40 = .ok (.ireturn, 1) := by decide +kernel
theorem dX7_partAt_41 : decode cX7_partAt 41 = .ok (.iload_n 2, 1) := by decide +kernel
theorem dX7_partAt_42 : decode cX7_partAt 42 = .ok (.bipush 97, 2) := by decide +kernel
theorem dX7_partAt_44 : decode cX7_partAt 44 = .ok (.if_icmp .lt 11, 3) := by decide +kernel
theorem dX7_partAt_47 : decode cX7_partAt 47 = .ok (.iload_n 2, 1) := by decide +kernel
theorem dX7_partAt_48 : decode cX7_partAt 48 = .ok (.bipush 122, 2) := by decide +kernel
theorem dX7_partAt_50 : decode cX7_partAt 50 = .ok (.if_icmp .gt 5, 3) := by decide +kernel
theorem dX7_partAt_53 : decode cX7_partAt 53 = .ok (.iconst 2, 1) := by decide +kernel
theorem dX7_partAt_54 : decode cX7_partAt 54 = .ok (.ireturn, 1) := by decide +kernel
theorem dX7_partAt_55 : decode cX7_partAt 55 = .ok (.iload_n 2, 1) := by decide +kernel
theorem dX7_partAt_56 : decode cX7_partAt 56 = .ok (.bipush 48, 2) := by decide +kernel
theorem dX7_partAt_58 : decode cX7_partAt 58 = .ok (.if_icmp .lt 11, 3) := by decide +kernel
theorem dX7_partAt_61 : decode cX7_partAt 61 = .ok (.iload_n 2, 1) := by decide +kernel
theorem dX7_partAt_62 : decode cX7_partAt 62 = .ok (.bipush 57, 2) := by decide +kernel
theorem dX7_partAt_64 : decode cX7_partAt 64 = .ok (.if_icmp .gt 5, 3) := by decide +kernel
theorem dX7_partAt_67 : decode cX7_partAt 67 = .ok (.iconst 3, 1) := by decide +kernel
theorem dX7_partAt_68 : decode cX7_partAt 68 = .ok (.ireturn, 1) := by decide +kernel
theorem dX7_partAt_69 : decode cX7_partAt 69 = .ok (.iload_n 2, 1) := by decide +kernel
theorem dX7_partAt_70 : decode cX7_partAt 70 = .ok (.bipush 59, 2) := by decide +kernel
theorem dX7_partAt_72 : decode cX7_partAt 72 = .ok (.if_icmp .ne 7, 3) := by decide +kernel
theorem dX7_partAt_75 : decode cX7_partAt 75 = .ok (.iconst 4, 1) := by decide +kernel
theorem dX7_partAt_76 : decode cX7_partAt 76 = .ok (.goto 4, 3) := by decide +kernel
theorem dX7_partAt_79 : decode cX7_partAt 79 = .ok (.iconst 5, 1) := by decide +kernel
theorem dX7_partAt_80 : decode cX7_partAt 80 = .ok (.ireturn, 1) := by decide +kernel
theorem dX9_add_0 : decode cX9_add 0 = .ok (.bipush 24, 2) := by decide +kernel
theorem dX9_add_2 : decode cX9_add 2 = .ok (.istore_n 2, 1) := by decide +kernel
theorem dX9_add_3 : decode cX9_add 3 = .ok (.iload_n 2, 1) := by decide +kernel
theorem dX9_add_4 : decode cX9_add 4 = .ok (.ifCond .lt 42, 3) := by decide +kernel
theorem dX9_add_7 : decode cX9_add 7 = .ok (.aload_n 0, 1) := by decide +kernel
theorem dX9_add_8 : decode cX9_add 8 = .ok (.getfield 15, 3) := by decide +kernel
theorem dX9_add_11 : decode cX9_add 11 = .ok (.sipush 600, 3) := by decide +kernel
theorem dX9_add_14 : decode cX9_add 14 = .ok (.if_icmp .ge 32, 3) := by decide +kernel
theorem dX9_add_17 : decode cX9_add 17 = .ok (.aload_n 0, 1) := by decide +kernel
theorem dX9_add_18 : decode cX9_add 18 = .ok (.getfield 9, 3) := by decide +kernel
theorem dX9_add_21 : decode cX9_add 21 = .ok (.aload_n 0, 1) := by decide +kernel
theorem dX9_add_22 : decode cX9_add 22 = .ok (.getfield 15, 3) := by decide +kernel
theorem dX9_add_25 : decode cX9_add 25 = .ok (.iload_n 1, 1) := by decide +kernel
theorem dX9_add_26 : decode cX9_add 26 = .ok (.iload_n 2, 1) := by decide +kernel
theorem dX9_add_27 : decode cX9_add 27 = .ok (.ishr, 1) := by decide +kernel
theorem dX9_add_28 : decode cX9_add 28 = .ok (.i2b, 1) := by decide +kernel
theorem dX9_add_29 : decode cX9_add 29 = .ok (.bastore, 1) := by decide +kernel
theorem dX9_add_30 : decode cX9_add 30 = .ok (.aload_n 0, 1) := by decide +kernel
theorem dX9_add_31 : decode cX9_add 31 = .ok (.dup, 1) := by decide +kernel
theorem dX9_add_32 : decode cX9_add 32 = .ok (.getfield 15, 3) := by decide +kernel
theorem dX9_add_35 : decode cX9_add 35 = .ok (.iconst 1, 1) := by decide +kernel
theorem dX9_add_36 : decode cX9_add 36 = .ok (.iadd, 1) := by decide +kernel
theorem dX9_add_37 : decode cX9_add 37 = .ok (.putfield 15, 3) := by decide +kernel
theorem dX9_add_40 : decode cX9_add 40 = .ok (.iinc 2 (-8), 3) := by decide +kernel
theorem dX9_add_43 : decode cX9_add 43 = .ok (.goto (-40), 3) := by decide +kernel
theorem dX9_add_46 : decode cX9_add 46 = .ok (.return_, 1) := by decide +kernel
theorem mm_k0 : mm_rg 0 0 0 := ⟨by decide, by decide⟩
theorem mm_k1 : mm_rg 1 1 1 := ⟨by decide, by decide⟩
theorem mm_k10 : mm_rg 10 10 10 := ⟨by decide, by decide⟩
theorem mm_k1000000 : mm_rg 1000000 1000000 1000000 := ⟨by decide, by decide⟩
theorem mm_k122 : mm_rg 122 122 122 := ⟨by decide, by decide⟩
theorem mm_k16 : mm_rg 16 16 16 := ⟨by decide, by decide⟩
theorem mm_k2 : mm_rg 2 2 2 := ⟨by decide, by decide⟩
theorem mm_k20 : mm_rg 20 20 20 := ⟨by decide, by decide⟩
theorem mm_k24 : mm_rg 24 24 24 := ⟨by decide, by decide⟩
theorem mm_k3 : mm_rg 3 3 3 := ⟨by decide, by decide⟩
theorem mm_k30 : mm_rg 30 30 30 := ⟨by decide, by decide⟩
theorem mm_k32 : mm_rg 32 32 32 := ⟨by decide, by decide⟩
theorem mm_k4 : mm_rg 4 4 4 := ⟨by decide, by decide⟩
theorem mm_k48 : mm_rg 48 48 48 := ⟨by decide, by decide⟩
theorem mm_k5 : mm_rg 5 5 5 := ⟨by decide, by decide⟩
theorem mm_k57 : mm_rg 57 57 57 := ⟨by decide, by decide⟩
theorem mm_k59 : mm_rg 59 59 59 := ⟨by decide, by decide⟩
theorem mm_k6 : mm_rg 6 6 6 := ⟨by decide, by decide⟩
theorem mm_k600 : mm_rg 600 600 600 := ⟨by decide, by decide⟩
theorem mm_k8 : mm_rg 8 8 8 := ⟨by decide, by decide⟩
theorem mm_k97 : mm_rg 97 97 97 := ⟨by decide, by decide⟩
theorem mm_km1 : mm_rg (-1) (-1) (-1) := ⟨by decide, by decide⟩
theorem mm_km8 : mm_rg (-8) (-8) (-8) := ⟨by decide, by decide⟩
theorem hd_X7_numberTold : yX7_numberTold.cls = RX7 ∧ yX7_numberTold.cls ≠ "java/lang/invoke/MethodHandle" ∧ yX7_numberTold.cls ≠ "java/lang/invoke/VarHandle" ∧ (parseMethodDescriptor yX7_numberTold.desc).map (fun d => d.parameters.length) = some 0 := by decide +kernel
theorem hd_X7_partAt : yX7_partAt.cls = RX7 ∧ yX7_partAt.cls ≠ "java/lang/invoke/MethodHandle" ∧ yX7_partAt.cls ≠ "java/lang/invoke/VarHandle" ∧ (parseMethodDescriptor yX7_partAt.desc).map (fun d => d.parameters.length) = some 1 := by decide +kernel
theorem hd_X9_add : yX9_add.cls = RX9 ∧ yX9_add.cls ≠ "java/lang/invoke/MethodHandle" ∧ yX9_add.cls ≠ "java/lang/invoke/VarHandle" ∧ (parseMethodDescriptor yX9_add.desc).map (fun d => d.parameters.length) = some 1 := by decide +kernel
theorem hs_J7_fill_53178 : yJ7_fill_53178.cls ≠ "java/lang/invoke/MethodHandle" ∧ yJ7_fill_53178.cls ≠ "java/lang/invoke/VarHandle" ∧ (parseMethodDescriptor yJ7_fill_53178.desc).map (fun d => d.parameters.length) = some 2 := by decide +kernel
set_option maxHeartbeats 4000000 in
set_option maxRecDepth 100000 in
theorem K1_X9_add (l : Launch) (G : va_G) (cy : Nat → ClassId) (sz : Nat) (a_0 : Nat) (i_0 : Int32) (a_1 : Nat) (i_1 : Int32) (f_0 : Nat → Int32) (h0 : mm_rg i_1 0 600) (h1 : mm_ar f_0 (-128) 127)  : mm_CV l yX9_add (mm_ws yX9_add cX9_add 3 (none)) ({ frames := 0, cells := 0, slots := 0, locals := 0 } : Room) G cy sz [(a_0, .inr (9, [.ref a_1, .int i_1])), (a_1, .inl (cy 0, 600, .inl f_0))] [.ref a_0, .int i_0] (fun u : Int32 × (Nat → Int32) => [(a_0, .inr (9, [.ref a_1, .int u.1])), (a_1, .inl (cy 0, 600, .inl u.2))]) (fun u : Int32 × (Nat → Int32) => mm_rg u.1 4 600 ∧ mm_ar u.2 (-128) 127) 0 0 := by
  refine mm_begin (lv := [(0, .ref a_0), (1, .int i_0)]) (by decide) (Nat.le_of_ble_eq_true rfl) rfl ?_
  intro p e s m below meth c A ls R args Q H locs hRe hQ hAe hx hb hr hlocks hml hown hnm hts hsz hA hS hP hK hD hZ hl
  have hRf : R.frames = 0 := by rw [hRe]
  have hRl : R.locals = 0 := by rw [hRe]
  have hRc : R.cells = 0 := by rw [hRe]
  have hRs : R.slots = 0 := by rw [hRe]
  refine lv_bipush (v := 24) hx hb dX9_add_0 (by decide) ?_
  refine lv_istore_n (lv' := [(2, .int 24), (0, .ref a_0), (1, .int i_0)]) hx hb dX9_add_2 rfl hl (by decide) rfl ?_
  clear hl
  clear ls
  intro ls hl
  refine lv_iload_n hx hb dX9_add_3 rfl (lv_at hl 0 rfl) ?_
  refine lv_if_lt (tgt := 46) hx hb dX9_add_4 (by decide) (fun c1 => ?_) (fun c1 => ?_)
  · have q2 := mm_ltL (h := (-1)) (mm_lt c1) mm_k24 mm_k0 (by decide)
    exact mm_no q2 (by decide)
  · refine lv_aload_n hx hb dX9_add_7 rfl (lv_at hl 1 rfl) ?_
    refine va_get (D := G) (ci := 9) (v := .int i_1) (C := RX9) (T := TX9) (N := 2) hx hb hts (mm_i inlX9) hown hK.1 hP 0 rfl rfl 1 (by decide) (mm_h hts mm_w172) (fun _ h9 => h9) rfl dX9_add_8 ?_
    refine lv_sipush (v := 600) hx hb dX9_add_11 (by decide) ?_
    refine lv_icmp_ge (tgt := 46) hx hb dX9_add_14 (by decide) (fun c3 => ?_) (fun c3 => ?_)
    · have q4 := mm_leR (mm_le c3) mm_k600 h0
      subst hAe
      rw [hQ]
      exact W.vret hx hb hr (fun t ht hW => ⟨⟨(i_1, f_0), rfl, ⟨(mm_wk q4 (by decide)), h1⟩, by rw [ht]; exact hP, hK.warm hW, hD⟩, hS.F ht⟩) hS.2.2 dX9_add_46
    · have q5 := mm_ltL (h := 599) (mm_nle c3) h0 mm_k600 (by decide)
      refine lv_aload_n hx hb dX9_add_17 rfl (lv_at hl 1 rfl) ?_
      refine va_get (D := G) (ci := 9) (v := .ref a_1) (C := RX9) (T := TX9) (N := 2) hx hb hts (mm_i inlX9) hown hK.1 hP 0 rfl rfl 0 (by decide) (mm_h hts mm_w59) (fun _ h9 => h9) rfl dX9_add_18 ?_
      refine lv_aload_n hx hb dX9_add_21 rfl (lv_at hl 1 rfl) ?_
      refine va_get (D := G) (ci := 9) (v := .int i_1) (C := RX9) (T := TX9) (N := 2) hx hb hts (mm_i inlX9) hown hK.1 hP 0 rfl rfl 1 (by decide) (mm_h hts mm_w172) (fun _ h9 => h9) rfl dX9_add_22 ?_
      refine lv_iload_n hx hb dX9_add_25 rfl (lv_at hl 2 rfl) ?_
      refine lv_iload_n hx hb dX9_add_26 rfl (lv_at hl 0 rfl) ?_
      refine lv_ishr hx hb dX9_add_27 ?_
      refine lv_topi (fun v6 ev6 => ?_)
      obtain ⟨v7, ev7⟩ : ∃ y : Int32, y = v6.toInt8.toInt32 := ⟨_, rfl⟩
      refine lv_i2b hx hb dX9_add_28 ev7.symm ?_
      have rv7 : mm_rg v7 (-128) 127 := mm_i2b ev7
      refine va_bast hx hb hK.1 hP hD hS 1 0 rfl rfl (mm_in q5 (by decide)) dX9_add_29 ?_
      clear hP hD hS
      clear H locs
      obtain ⟨g8, eg8⟩ : ∃ z : Nat → Int32, z = upd f_0 i_1.toNatClampNeg (vp_nar .byte v7) := ⟨_, rfl⟩
      rw [← eg8]
      intro H locs (hP : va_P G vwCl [(a_0, .inr (9, [.ref a_1, .int i_1])), (a_1, .inl (cy 0, 600, .inl g8))] H) (hD : va_D A [(a_0, .inr (9, [.ref a_1, .int i_1])), (a_1, .inl (cy 0, 600, .inl g8))]) hS
      have rg8 : mm_ar g8 (-128) 127 := by rw [eg8]; exact mm_ar_upd (mm_ar_wk h1 (by decide)) (mm_nb _) _
      refine lv_aload_n hx hb dX9_add_30 rfl (lv_at hl 1 rfl) ?_
      refine lv_dup hx hb dX9_add_31 rfl ?_
      refine va_get (D := G) (ci := 9) (v := .int i_1) (C := RX9) (T := TX9) (N := 2) hx hb hts (mm_i inlX9) hown hK.1 hP 0 rfl rfl 1 (by decide) (mm_h hts mm_w172) (fun _ h9 => h9) rfl dX9_add_32 ?_
      refine lv_iconst (v := 1) hx hb dX9_add_35 (by decide) ?_
      refine lv_iadd hx hb dX9_add_36 ?_
      refine lv_topi (fun v9 ev9 => ?_)
      have rv9 : mm_rg v9 1 600 := mm_add ev9 q5 mm_k1 (by decide) (by decide)
      have tv9 := mm_addEc ev9 q5 mm_k1 (by decide) (k := 1) (by decide)
      refine va_put (D := G) (ci := 9) (v := .int v9) (ty := tyX9 1) (C := RX9) (T := TX9) (N := 2) hx hb hts (mm_i inlX9) tyX9 tyX9_ok nmX9 hown hK.1 hP hD hS 0 rfl rfl 1 (by decide) (mm_h hts mm_w172) (fun _ h9 => h9) rfl (tyX9_ok 1 (by decide)) rfl rfl (Nat.le_of_ble_eq_true rfl) dX9_add_37 ?_
      clear hP hD hS
      clear H locs
      intro H locs (hP : va_P G vwCl [(a_0, .inr (9, [.ref a_1, .int v9])), (a_1, .inl (cy 0, 600, .inl g8))] H) (hD : va_D A [(a_0, .inr (9, [.ref a_1, .int v9])), (a_1, .inl (cy 0, 600, .inl g8))]) hS
      refine lv_iinc (v := 16) (lv' := [(2, .int 16), (0, .ref a_0), (1, .int i_0)]) hx hb dX9_add_40 hl (k := 0) rfl (by decide) (by decide) rfl ?_
      clear hl
      clear ls
      intro ls hl
      refine lv_goto (tgt := 3) hx hb dX9_add_43 (by decide) ?_
      refine lv_iload_n hx hb dX9_add_3 rfl (lv_at hl 0 rfl) ?_
      refine lv_if_lt (tgt := 46) hx hb dX9_add_4 (by decide) (fun c10 => ?_) (fun c10 => ?_)
      · have q11 := mm_ltL (h := (-1)) (mm_lt c10) mm_k16 mm_k0 (by decide)
        exact mm_no q11 (by decide)
      · refine lv_aload_n hx hb dX9_add_7 rfl (lv_at hl 1 rfl) ?_
        refine va_get (D := G) (ci := 9) (v := .int v9) (C := RX9) (T := TX9) (N := 2) hx hb hts (mm_i inlX9) hown hK.1 hP 0 rfl rfl 1 (by decide) (mm_h hts mm_w172) (fun _ h9 => h9) rfl dX9_add_8 ?_
        refine lv_sipush (v := 600) hx hb dX9_add_11 (by decide) ?_
        refine lv_icmp_ge (tgt := 46) hx hb dX9_add_14 (by decide) (fun c12 => ?_) (fun c12 => ?_)
        · have q13 := mm_leR (mm_le c12) mm_k600 rv9
          have q14 : mm_rg i_1 599 599 := mm_unadd tv9 q13 q5 (by decide) (by decide)
          subst hAe
          rw [hQ]
          exact W.vret hx hb hr (fun t ht hW => ⟨⟨(v9, g8), rfl, ⟨(mm_wk q13 (by decide)), rg8⟩, by rw [ht]; exact hP, hK.warm hW, hD⟩, hS.F ht⟩) hS.2.2 dX9_add_46
        · have q15 := mm_ltL (h := 599) (mm_nle c12) rv9 mm_k600 (by decide)
          have q16 : mm_rg i_1 0 598 := mm_unadd tv9 q15 q5 (by decide) (by decide)
          refine lv_aload_n hx hb dX9_add_17 rfl (lv_at hl 1 rfl) ?_
          refine va_get (D := G) (ci := 9) (v := .ref a_1) (C := RX9) (T := TX9) (N := 2) hx hb hts (mm_i inlX9) hown hK.1 hP 0 rfl rfl 0 (by decide) (mm_h hts mm_w59) (fun _ h9 => h9) rfl dX9_add_18 ?_
          refine lv_aload_n hx hb dX9_add_21 rfl (lv_at hl 1 rfl) ?_
          refine va_get (D := G) (ci := 9) (v := .int v9) (C := RX9) (T := TX9) (N := 2) hx hb hts (mm_i inlX9) hown hK.1 hP 0 rfl rfl 1 (by decide) (mm_h hts mm_w172) (fun _ h9 => h9) rfl dX9_add_22 ?_
          refine lv_iload_n hx hb dX9_add_25 rfl (lv_at hl 2 rfl) ?_
          refine lv_iload_n hx hb dX9_add_26 rfl (lv_at hl 0 rfl) ?_
          refine lv_ishr hx hb dX9_add_27 ?_
          refine lv_topi (fun v17 ev17 => ?_)
          obtain ⟨v18, ev18⟩ : ∃ y : Int32, y = v17.toInt8.toInt32 := ⟨_, rfl⟩
          refine lv_i2b hx hb dX9_add_28 ev18.symm ?_
          have rv18 : mm_rg v18 (-128) 127 := mm_i2b ev18
          refine va_bast hx hb hK.1 hP hD hS 1 0 rfl rfl (mm_in q15 (by decide)) dX9_add_29 ?_
          clear hP hD hS
          clear H locs
          obtain ⟨g19, eg19⟩ : ∃ z : Nat → Int32, z = upd g8 v9.toNatClampNeg (vp_nar .byte v18) := ⟨_, rfl⟩
          rw [← eg19]
          intro H locs (hP : va_P G vwCl [(a_0, .inr (9, [.ref a_1, .int v9])), (a_1, .inl (cy 0, 600, .inl g19))] H) (hD : va_D A [(a_0, .inr (9, [.ref a_1, .int v9])), (a_1, .inl (cy 0, 600, .inl g19))]) hS
          have rg19 : mm_ar g19 (-128) 127 := by rw [eg19]; exact mm_ar_upd (mm_ar_wk rg8 (by decide)) (mm_nb _) _
          refine lv_aload_n hx hb dX9_add_30 rfl (lv_at hl 1 rfl) ?_
          refine lv_dup hx hb dX9_add_31 rfl ?_
          refine va_get (D := G) (ci := 9) (v := .int v9) (C := RX9) (T := TX9) (N := 2) hx hb hts (mm_i inlX9) hown hK.1 hP 0 rfl rfl 1 (by decide) (mm_h hts mm_w172) (fun _ h9 => h9) rfl dX9_add_32 ?_
          refine lv_iconst (v := 1) hx hb dX9_add_35 (by decide) ?_
          refine lv_iadd hx hb dX9_add_36 ?_
          refine lv_topi (fun v20 ev20 => ?_)
          have rv20 : mm_rg v20 2 600 := mm_add ev20 q15 mm_k1 (by decide) (by decide)
          have tv20 := mm_addEc ev20 q15 mm_k1 (by decide) (k := 1) (by decide)
          refine va_put (D := G) (ci := 9) (v := .int v20) (ty := tyX9 1) (C := RX9) (T := TX9) (N := 2) hx hb hts (mm_i inlX9) tyX9 tyX9_ok nmX9 hown hK.1 hP hD hS 0 rfl rfl 1 (by decide) (mm_h hts mm_w172) (fun _ h9 => h9) rfl (tyX9_ok 1 (by decide)) rfl rfl (Nat.le_of_ble_eq_true rfl) dX9_add_37 ?_
          clear hP hD hS
          clear H locs
          intro H locs (hP : va_P G vwCl [(a_0, .inr (9, [.ref a_1, .int v20])), (a_1, .inl (cy 0, 600, .inl g19))] H) (hD : va_D A [(a_0, .inr (9, [.ref a_1, .int v20])), (a_1, .inl (cy 0, 600, .inl g19))]) hS
          refine lv_iinc (v := 8) (lv' := [(2, .int 8), (0, .ref a_0), (1, .int i_0)]) hx hb dX9_add_40 hl (k := 0) rfl (by decide) (by decide) rfl ?_
          clear hl
          clear ls
          intro ls hl
          refine lv_goto (tgt := 3) hx hb dX9_add_43 (by decide) ?_
          refine lv_iload_n hx hb dX9_add_3 rfl (lv_at hl 0 rfl) ?_
          refine lv_if_lt (tgt := 46) hx hb dX9_add_4 (by decide) (fun c21 => ?_) (fun c21 => ?_)
          · have q22 := mm_ltL (h := (-1)) (mm_lt c21) mm_k8 mm_k0 (by decide)
            exact mm_no q22 (by decide)
          · refine lv_aload_n hx hb dX9_add_7 rfl (lv_at hl 1 rfl) ?_
            refine va_get (D := G) (ci := 9) (v := .int v20) (C := RX9) (T := TX9) (N := 2) hx hb hts (mm_i inlX9) hown hK.1 hP 0 rfl rfl 1 (by decide) (mm_h hts mm_w172) (fun _ h9 => h9) rfl dX9_add_8 ?_
            refine lv_sipush (v := 600) hx hb dX9_add_11 (by decide) ?_
            refine lv_icmp_ge (tgt := 46) hx hb dX9_add_14 (by decide) (fun c23 => ?_) (fun c23 => ?_)
            · have q24 := mm_leR (mm_le c23) mm_k600 rv20
              have q25 : mm_rg v9 599 599 := mm_unadd tv20 q24 q15 (by decide) (by decide)
              have q26 : mm_rg i_1 598 598 := mm_unadd tv9 q25 q16 (by decide) (by decide)
              subst hAe
              rw [hQ]
              exact W.vret hx hb hr (fun t ht hW => ⟨⟨(v20, g19), rfl, ⟨(mm_wk q24 (by decide)), rg19⟩, by rw [ht]; exact hP, hK.warm hW, hD⟩, hS.F ht⟩) hS.2.2 dX9_add_46
            · have q27 := mm_ltL (h := 599) (mm_nle c23) rv20 mm_k600 (by decide)
              have q28 : mm_rg v9 1 598 := mm_unadd tv20 q27 q15 (by decide) (by decide)
              have q29 : mm_rg i_1 0 597 := mm_unadd tv9 q28 q16 (by decide) (by decide)
              refine lv_aload_n hx hb dX9_add_17 rfl (lv_at hl 1 rfl) ?_
              refine va_get (D := G) (ci := 9) (v := .ref a_1) (C := RX9) (T := TX9) (N := 2) hx hb hts (mm_i inlX9) hown hK.1 hP 0 rfl rfl 0 (by decide) (mm_h hts mm_w59) (fun _ h9 => h9) rfl dX9_add_18 ?_
              refine lv_aload_n hx hb dX9_add_21 rfl (lv_at hl 1 rfl) ?_
              refine va_get (D := G) (ci := 9) (v := .int v20) (C := RX9) (T := TX9) (N := 2) hx hb hts (mm_i inlX9) hown hK.1 hP 0 rfl rfl 1 (by decide) (mm_h hts mm_w172) (fun _ h9 => h9) rfl dX9_add_22 ?_
              refine lv_iload_n hx hb dX9_add_25 rfl (lv_at hl 2 rfl) ?_
              refine lv_iload_n hx hb dX9_add_26 rfl (lv_at hl 0 rfl) ?_
              refine lv_ishr hx hb dX9_add_27 ?_
              refine lv_topi (fun v30 ev30 => ?_)
              obtain ⟨v31, ev31⟩ : ∃ y : Int32, y = v30.toInt8.toInt32 := ⟨_, rfl⟩
              refine lv_i2b hx hb dX9_add_28 ev31.symm ?_
              have rv31 : mm_rg v31 (-128) 127 := mm_i2b ev31
              refine va_bast hx hb hK.1 hP hD hS 1 0 rfl rfl (mm_in q27 (by decide)) dX9_add_29 ?_
              clear hP hD hS
              clear H locs
              obtain ⟨g32, eg32⟩ : ∃ z : Nat → Int32, z = upd g19 v20.toNatClampNeg (vp_nar .byte v31) := ⟨_, rfl⟩
              rw [← eg32]
              intro H locs (hP : va_P G vwCl [(a_0, .inr (9, [.ref a_1, .int v20])), (a_1, .inl (cy 0, 600, .inl g32))] H) (hD : va_D A [(a_0, .inr (9, [.ref a_1, .int v20])), (a_1, .inl (cy 0, 600, .inl g32))]) hS
              have rg32 : mm_ar g32 (-128) 127 := by rw [eg32]; exact mm_ar_upd (mm_ar_wk rg19 (by decide)) (mm_nb _) _
              refine lv_aload_n hx hb dX9_add_30 rfl (lv_at hl 1 rfl) ?_
              refine lv_dup hx hb dX9_add_31 rfl ?_
              refine va_get (D := G) (ci := 9) (v := .int v20) (C := RX9) (T := TX9) (N := 2) hx hb hts (mm_i inlX9) hown hK.1 hP 0 rfl rfl 1 (by decide) (mm_h hts mm_w172) (fun _ h9 => h9) rfl dX9_add_32 ?_
              refine lv_iconst (v := 1) hx hb dX9_add_35 (by decide) ?_
              refine lv_iadd hx hb dX9_add_36 ?_
              refine lv_topi (fun v33 ev33 => ?_)
              have rv33 : mm_rg v33 3 600 := mm_add ev33 q27 mm_k1 (by decide) (by decide)
              have tv33 := mm_addEc ev33 q27 mm_k1 (by decide) (k := 1) (by decide)
              refine va_put (D := G) (ci := 9) (v := .int v33) (ty := tyX9 1) (C := RX9) (T := TX9) (N := 2) hx hb hts (mm_i inlX9) tyX9 tyX9_ok nmX9 hown hK.1 hP hD hS 0 rfl rfl 1 (by decide) (mm_h hts mm_w172) (fun _ h9 => h9) rfl (tyX9_ok 1 (by decide)) rfl rfl (Nat.le_of_ble_eq_true rfl) dX9_add_37 ?_
              clear hP hD hS
              clear H locs
              intro H locs (hP : va_P G vwCl [(a_0, .inr (9, [.ref a_1, .int v33])), (a_1, .inl (cy 0, 600, .inl g32))] H) (hD : va_D A [(a_0, .inr (9, [.ref a_1, .int v33])), (a_1, .inl (cy 0, 600, .inl g32))]) hS
              refine lv_iinc (v := 0) (lv' := [(2, .int 0), (0, .ref a_0), (1, .int i_0)]) hx hb dX9_add_40 hl (k := 0) rfl (by decide) (by decide) rfl ?_
              clear hl
              clear ls
              intro ls hl
              refine lv_goto (tgt := 3) hx hb dX9_add_43 (by decide) ?_
              refine lv_iload_n hx hb dX9_add_3 rfl (lv_at hl 0 rfl) ?_
              refine lv_if_lt (tgt := 46) hx hb dX9_add_4 (by decide) (fun c34 => ?_) (fun c34 => ?_)
              · have q35 := mm_ltL (h := (-1)) (mm_lt c34) mm_k0 mm_k0 (by decide)
                exact mm_no q35 (by decide)
              · refine lv_aload_n hx hb dX9_add_7 rfl (lv_at hl 1 rfl) ?_
                refine va_get (D := G) (ci := 9) (v := .int v33) (C := RX9) (T := TX9) (N := 2) hx hb hts (mm_i inlX9) hown hK.1 hP 0 rfl rfl 1 (by decide) (mm_h hts mm_w172) (fun _ h9 => h9) rfl dX9_add_8 ?_
                refine lv_sipush (v := 600) hx hb dX9_add_11 (by decide) ?_
                refine lv_icmp_ge (tgt := 46) hx hb dX9_add_14 (by decide) (fun c36 => ?_) (fun c36 => ?_)
                · have q37 := mm_leR (mm_le c36) mm_k600 rv33
                  have q38 : mm_rg v20 599 599 := mm_unadd tv33 q37 q27 (by decide) (by decide)
                  have q39 : mm_rg v9 598 598 := mm_unadd tv20 q38 q28 (by decide) (by decide)
                  have q40 : mm_rg i_1 597 597 := mm_unadd tv9 q39 q29 (by decide) (by decide)
                  subst hAe
                  rw [hQ]
                  exact W.vret hx hb hr (fun t ht hW => ⟨⟨(v33, g32), rfl, ⟨(mm_wk q37 (by decide)), rg32⟩, by rw [ht]; exact hP, hK.warm hW, hD⟩, hS.F ht⟩) hS.2.2 dX9_add_46
                · have q41 := mm_ltL (h := 599) (mm_nle c36) rv33 mm_k600 (by decide)
                  have q42 : mm_rg v20 2 598 := mm_unadd tv33 q41 q27 (by decide) (by decide)
                  have q43 : mm_rg v9 1 597 := mm_unadd tv20 q42 q28 (by decide) (by decide)
                  have q44 : mm_rg i_1 0 596 := mm_unadd tv9 q43 q29 (by decide) (by decide)
                  refine lv_aload_n hx hb dX9_add_17 rfl (lv_at hl 1 rfl) ?_
                  refine va_get (D := G) (ci := 9) (v := .ref a_1) (C := RX9) (T := TX9) (N := 2) hx hb hts (mm_i inlX9) hown hK.1 hP 0 rfl rfl 0 (by decide) (mm_h hts mm_w59) (fun _ h9 => h9) rfl dX9_add_18 ?_
                  refine lv_aload_n hx hb dX9_add_21 rfl (lv_at hl 1 rfl) ?_
                  refine va_get (D := G) (ci := 9) (v := .int v33) (C := RX9) (T := TX9) (N := 2) hx hb hts (mm_i inlX9) hown hK.1 hP 0 rfl rfl 1 (by decide) (mm_h hts mm_w172) (fun _ h9 => h9) rfl dX9_add_22 ?_
                  refine lv_iload_n hx hb dX9_add_25 rfl (lv_at hl 2 rfl) ?_
                  refine lv_iload_n hx hb dX9_add_26 rfl (lv_at hl 0 rfl) ?_
                  refine lv_ishr hx hb dX9_add_27 ?_
                  refine lv_topi (fun v45 ev45 => ?_)
                  obtain ⟨v46, ev46⟩ : ∃ y : Int32, y = v45.toInt8.toInt32 := ⟨_, rfl⟩
                  refine lv_i2b hx hb dX9_add_28 ev46.symm ?_
                  have rv46 : mm_rg v46 (-128) 127 := mm_i2b ev46
                  refine va_bast hx hb hK.1 hP hD hS 1 0 rfl rfl (mm_in q41 (by decide)) dX9_add_29 ?_
                  clear hP hD hS
                  clear H locs
                  obtain ⟨g47, eg47⟩ : ∃ z : Nat → Int32, z = upd g32 v33.toNatClampNeg (vp_nar .byte v46) := ⟨_, rfl⟩
                  rw [← eg47]
                  intro H locs (hP : va_P G vwCl [(a_0, .inr (9, [.ref a_1, .int v33])), (a_1, .inl (cy 0, 600, .inl g47))] H) (hD : va_D A [(a_0, .inr (9, [.ref a_1, .int v33])), (a_1, .inl (cy 0, 600, .inl g47))]) hS
                  have rg47 : mm_ar g47 (-128) 127 := by rw [eg47]; exact mm_ar_upd (mm_ar_wk rg32 (by decide)) (mm_nb _) _
                  refine lv_aload_n hx hb dX9_add_30 rfl (lv_at hl 1 rfl) ?_
                  refine lv_dup hx hb dX9_add_31 rfl ?_
                  refine va_get (D := G) (ci := 9) (v := .int v33) (C := RX9) (T := TX9) (N := 2) hx hb hts (mm_i inlX9) hown hK.1 hP 0 rfl rfl 1 (by decide) (mm_h hts mm_w172) (fun _ h9 => h9) rfl dX9_add_32 ?_
                  refine lv_iconst (v := 1) hx hb dX9_add_35 (by decide) ?_
                  refine lv_iadd hx hb dX9_add_36 ?_
                  refine lv_topi (fun v48 ev48 => ?_)
                  have rv48 : mm_rg v48 4 600 := mm_add ev48 q41 mm_k1 (by decide) (by decide)
                  have tv48 := mm_addEc ev48 q41 mm_k1 (by decide) (k := 1) (by decide)
                  refine va_put (D := G) (ci := 9) (v := .int v48) (ty := tyX9 1) (C := RX9) (T := TX9) (N := 2) hx hb hts (mm_i inlX9) tyX9 tyX9_ok nmX9 hown hK.1 hP hD hS 0 rfl rfl 1 (by decide) (mm_h hts mm_w172) (fun _ h9 => h9) rfl (tyX9_ok 1 (by decide)) rfl rfl (Nat.le_of_ble_eq_true rfl) dX9_add_37 ?_
                  clear hP hD hS
                  clear H locs
                  intro H locs (hP : va_P G vwCl [(a_0, .inr (9, [.ref a_1, .int v48])), (a_1, .inl (cy 0, 600, .inl g47))] H) (hD : va_D A [(a_0, .inr (9, [.ref a_1, .int v48])), (a_1, .inl (cy 0, 600, .inl g47))]) hS
                  refine lv_iinc (v := (-8)) (lv' := [(2, .int (-8)), (0, .ref a_0), (1, .int i_0)]) hx hb dX9_add_40 hl (k := 0) rfl (by decide) (by decide) rfl ?_
                  clear hl
                  clear ls
                  intro ls hl
                  refine lv_goto (tgt := 3) hx hb dX9_add_43 (by decide) ?_
                  refine lv_iload_n hx hb dX9_add_3 rfl (lv_at hl 0 rfl) ?_
                  refine lv_if_lt (tgt := 46) hx hb dX9_add_4 (by decide) (fun c49 => ?_) (fun c49 => ?_)
                  · subst hAe
                    rw [hQ]
                    exact W.vret hx hb hr (fun t ht hW => ⟨⟨(v48, g47), rfl, ⟨rv48, rg47⟩, by rw [ht]; exact hP, hK.warm hW, hD⟩, hS.F ht⟩) hS.2.2 dX9_add_46
                  · have q50 := mm_leL (mm_nlt c49) mm_k0 mm_km8
                    exact mm_no q50 (by decide)

set_option maxHeartbeats 4000000 in
set_option maxRecDepth 100000 in
theorem K2_X11_feed (l : Launch) (G : va_G) (cy : Nat → ClassId) (sz : Nat) (a_0 : Nat) (i_0 : Int32) (i_1 : Int32) (i_2 : Int32) (i_3 : Int32) (i_4 : Int32) (a_1 : Nat) (a_2 : Nat) (a_3 : Nat) (a_4 : Nat) (a_5 : Nat) (a_6 : Nat) (a_7 : Nat) (a_8 : Nat) (a_9 : Nat) (a_10 : Nat) (a_11 : Nat) (a_12 : Nat) (i_5 : Int32) (f_0 : Nat → Int32) (h0 : mm_rg i_5 0 600) (h1 : mm_ar f_0 (-128) 127)  : mm_CI l yX11_feed (mm_ws yX11_feed cX11_feed 6 (some .int)) ({ frames := 1, cells := 0, slots := 0, locals := 22 } : Room) G cy sz [(a_0, .inr (11, [.ref a_1, .ref a_2, .ref a_3, .ref a_4, .ref a_5, .ref a_6, .ref a_7, .ref a_8, .ref a_9, .ref a_10, .ref a_11])), (a_1, .inr (9, [.ref a_12, .int i_5])), (a_12, .inl (cy 0, 600, .inl f_0))] [.ref a_0, .int i_0, .int i_1, .int i_2, .int i_3, .int i_4] (fun u : Int32 × (Nat → Int32) => [(a_0, .inr (11, [.ref a_1, .ref a_2, .ref a_3, .ref a_4, .ref a_5, .ref a_6, .ref a_7, .ref a_8, .ref a_9, .ref a_10, .ref a_11])), (a_1, .inr (9, [.ref a_12, .int u.1])), (a_12, .inl (cy 0, 600, .inl u.2))]) (fun (r : Int32) (u : Int32 × (Nat → Int32)) => mm_rg u.1 4 600 ∧ mm_ar u.2 (-128) 127 ∧ mm_rg r (-1) 600) 0 0 := by
  refine mm_begin (lv := [(0, .ref a_0), (1, .int i_0), (2, .int i_1), (3, .int i_2), (4, .int i_3), (5, .int i_4)]) (by decide) (Nat.le_of_ble_eq_true rfl) rfl ?_
  intro p e s m below meth c A ls R args Q H locs hRe hQ hAe hx hb hr hlocks hml hown hnm hts hsz hA hS hP hK hD hZ hl
  have hRf : R.frames = 1 := by rw [hRe]
  have hRl : R.locals = 22 := by rw [hRe]
  have hRc : R.cells = 0 := by rw [hRe]
  have hRs : R.slots = 0 := by rw [hRe]
  refine lv_aload_n hx hb dX11_feed_0 rfl (lv_at hl 0 rfl) ?_
  refine va_get (D := G) (ci := 11) (v := .ref a_1) (C := RX11) (T := TX11) (N := 11) hx hb hts (mm_i inlX11) hown hK.1 hP 0 rfl rfl 0 (by decide) (mm_h hts mm_w16) (fun _ h9 => h9) rfl dX11_feed_1 ?_
  refine va_get (D := G) (ci := 9) (v := .int i_5) (C := RX9) (T := TX9) (N := 2) hx hb hts (mm_i inlX9) hown hK.1 hP 1 rfl rfl 1 (by decide) (mm_h hts mm_w167) (fun _ h9 => h9) rfl dX11_feed_4 ?_
  refine lv_bipush (v := 20) hx hb dX11_feed_7 (by decide) ?_
  refine lv_iadd hx hb dX11_feed_9 ?_
  refine lv_topi (fun v1 ev1 => ?_)
  have rv1 : mm_rg v1 20 620 := mm_add ev1 h0 mm_k20 (by decide) (by decide)
  have tv1 := mm_addEc ev1 h0 mm_k20 (by decide) (k := 20) (by decide)
  refine lv_sipush (v := 600) hx hb dX11_feed_10 (by decide) ?_
  refine lv_icmp_le (tgt := 18) hx hb dX11_feed_13 (by decide) (fun c2 => ?_) (fun c2 => ?_)
  · have q3 := mm_leL (mm_le c2) rv1 mm_k600
    have q4 : mm_rg i_5 0 580 := mm_unadd tv1 q3 h0 (by decide) (by decide)
    refine lv_aload_n hx hb dX11_feed_18 rfl (lv_at hl 0 rfl) ?_
    refine va_get (D := G) (ci := 11) (v := .ref a_1) (C := RX11) (T := TX11) (N := 11) hx hb hts (mm_i inlX11) hown hK.1 hP 0 rfl rfl 0 (by decide) (mm_h hts mm_w16) (fun _ h9 => h9) rfl dX11_feed_19 ?_
    refine lv_iload_n hx hb dX11_feed_22 rfl (lv_at hl 1 rfl) ?_
    refine mm_finv (va_runV (As := [.int i_0]) (rest := []) ⟨hx, hb, hml, hown, hts⟩ (K1_X9_add l G cy H.size a_1 i_0 a_12 i_5 f_0 (mm_wk q4 (by decide)) h1) (cwV 1 hts (mm_gV mm_w168 mm_w169 mm_w170 mm_w15 mm_w171) rfl rfl rfl hd_X9_add ⟨by rw [hRf]; exact Nat.le_of_ble_eq_true rfl, by rw [hRl]; exact Nat.le_of_ble_eq_true rfl⟩) (mm_preV hK hZ hS hA hP hD [1, 2] rfl rfl 1 rfl rfl rfl) rfl rfl hl.1 rfl (lv_room (Nat.le_of_ble_eq_true rfl)) dX11_feed_23 ⟨by rw [hRc]; exact Nat.le_of_ble_eq_true rfl, by rw [hRs]; exact Nat.le_of_ble_eq_true rfl⟩) hP hD hS hA (fun u : Int32 × (Nat → Int32) => [(a_0, .inr (11, [.ref a_1, .ref a_2, .ref a_3, .ref a_4, .ref a_5, .ref a_6, .ref a_7, .ref a_8, .ref a_9, .ref a_10, .ref a_11])), (a_1, .inr (9, [.ref a_12, .int u.1])), (a_12, .inl (cy 0, 600, .inl u.2))]) [1, 2] [0] (n := 3) (fun _ => rfl) (by decide +kernel) (by decide +kernel) rfl (fun _ => rfl) (wr := [(a_0, .inr (11, [.ref a_1, .ref a_2, .ref a_3, .ref a_4, .ref a_5, .ref a_6, .ref a_7, .ref a_8, .ref a_9, .ref a_10, .ref a_11]))]) rfl (fun _ => rfl) (fun _ => rfl) ?_
    clear hP hD hS
    clear H locs
    intro u
    obtain ⟨n5, n6⟩ := u
    intro H locs hw (hP : va_P G vwCl [(a_0, .inr (11, [.ref a_1, .ref a_2, .ref a_3, .ref a_4, .ref a_5, .ref a_6, .ref a_7, .ref a_8, .ref a_9, .ref a_10, .ref a_11])), (a_1, .inr (9, [.ref a_12, .int n5])), (a_12, .inl (cy 0, 600, .inl n6))] H) (hD : va_D A [(a_0, .inr (11, [.ref a_1, .ref a_2, .ref a_3, .ref a_4, .ref a_5, .ref a_6, .ref a_7, .ref a_8, .ref a_9, .ref a_10, .ref a_11])), (a_1, .inr (9, [.ref a_12, .int n5])), (a_12, .inl (cy 0, 600, .inl n6))]) hS
    obtain ⟨w7, w8⟩ := hw
    refine lv_aload_n hx hb dX11_feed_26 rfl (lv_at hl 0 rfl) ?_
    refine va_get (D := G) (ci := 11) (v := .ref a_1) (C := RX11) (T := TX11) (N := 11) hx hb hts (mm_i inlX11) hown hK.1 hP 0 rfl rfl 0 (by decide) (mm_h hts mm_w16) (fun _ h9 => h9) rfl dX11_feed_27 ?_
    refine lv_iload_n hx hb dX11_feed_30 rfl (lv_at hl 2 rfl) ?_
    refine mm_finv (va_runV (As := [.int i_1]) (rest := []) ⟨hx, hb, hml, hown, hts⟩ (K1_X9_add l G cy H.size a_1 i_1 a_12 n5 n6 (mm_wk w7 (by decide)) w8) (cwV 1 hts (mm_gV mm_w168 mm_w169 mm_w170 mm_w15 mm_w171) rfl rfl rfl hd_X9_add ⟨by rw [hRf]; exact Nat.le_of_ble_eq_true rfl, by rw [hRl]; exact Nat.le_of_ble_eq_true rfl⟩) (mm_preV hK hZ hS hA hP hD [1, 2] rfl rfl 1 rfl rfl rfl) rfl rfl hl.1 rfl (lv_room (Nat.le_of_ble_eq_true rfl)) dX11_feed_31 ⟨by rw [hRc]; exact Nat.le_of_ble_eq_true rfl, by rw [hRs]; exact Nat.le_of_ble_eq_true rfl⟩) hP hD hS hA (fun u : Int32 × (Nat → Int32) => [(a_0, .inr (11, [.ref a_1, .ref a_2, .ref a_3, .ref a_4, .ref a_5, .ref a_6, .ref a_7, .ref a_8, .ref a_9, .ref a_10, .ref a_11])), (a_1, .inr (9, [.ref a_12, .int u.1])), (a_12, .inl (cy 0, 600, .inl u.2))]) [1, 2] [0] (n := 3) (fun _ => rfl) (by decide +kernel) (by decide +kernel) rfl (fun _ => rfl) (wr := [(a_0, .inr (11, [.ref a_1, .ref a_2, .ref a_3, .ref a_4, .ref a_5, .ref a_6, .ref a_7, .ref a_8, .ref a_9, .ref a_10, .ref a_11]))]) rfl (fun _ => rfl) (fun _ => rfl) ?_
    clear hP hD hS
    clear H locs
    intro u
    obtain ⟨n9, n10⟩ := u
    intro H locs hw (hP : va_P G vwCl [(a_0, .inr (11, [.ref a_1, .ref a_2, .ref a_3, .ref a_4, .ref a_5, .ref a_6, .ref a_7, .ref a_8, .ref a_9, .ref a_10, .ref a_11])), (a_1, .inr (9, [.ref a_12, .int n9])), (a_12, .inl (cy 0, 600, .inl n10))] H) (hD : va_D A [(a_0, .inr (11, [.ref a_1, .ref a_2, .ref a_3, .ref a_4, .ref a_5, .ref a_6, .ref a_7, .ref a_8, .ref a_9, .ref a_10, .ref a_11])), (a_1, .inr (9, [.ref a_12, .int n9])), (a_12, .inl (cy 0, 600, .inl n10))]) hS
    obtain ⟨w11, w12⟩ := hw
    refine lv_aload_n hx hb dX11_feed_34 rfl (lv_at hl 0 rfl) ?_
    refine va_get (D := G) (ci := 11) (v := .ref a_1) (C := RX11) (T := TX11) (N := 11) hx hb hts (mm_i inlX11) hown hK.1 hP 0 rfl rfl 0 (by decide) (mm_h hts mm_w16) (fun _ h9 => h9) rfl dX11_feed_35 ?_
    refine lv_iload_n hx hb dX11_feed_38 rfl (lv_at hl 3 rfl) ?_
    refine mm_finv (va_runV (As := [.int i_2]) (rest := []) ⟨hx, hb, hml, hown, hts⟩ (K1_X9_add l G cy H.size a_1 i_2 a_12 n9 n10 (mm_wk w11 (by decide)) w12) (cwV 1 hts (mm_gV mm_w168 mm_w169 mm_w170 mm_w15 mm_w171) rfl rfl rfl hd_X9_add ⟨by rw [hRf]; exact Nat.le_of_ble_eq_true rfl, by rw [hRl]; exact Nat.le_of_ble_eq_true rfl⟩) (mm_preV hK hZ hS hA hP hD [1, 2] rfl rfl 1 rfl rfl rfl) rfl rfl hl.1 rfl (lv_room (Nat.le_of_ble_eq_true rfl)) dX11_feed_39 ⟨by rw [hRc]; exact Nat.le_of_ble_eq_true rfl, by rw [hRs]; exact Nat.le_of_ble_eq_true rfl⟩) hP hD hS hA (fun u : Int32 × (Nat → Int32) => [(a_0, .inr (11, [.ref a_1, .ref a_2, .ref a_3, .ref a_4, .ref a_5, .ref a_6, .ref a_7, .ref a_8, .ref a_9, .ref a_10, .ref a_11])), (a_1, .inr (9, [.ref a_12, .int u.1])), (a_12, .inl (cy 0, 600, .inl u.2))]) [1, 2] [0] (n := 3) (fun _ => rfl) (by decide +kernel) (by decide +kernel) rfl (fun _ => rfl) (wr := [(a_0, .inr (11, [.ref a_1, .ref a_2, .ref a_3, .ref a_4, .ref a_5, .ref a_6, .ref a_7, .ref a_8, .ref a_9, .ref a_10, .ref a_11]))]) rfl (fun _ => rfl) (fun _ => rfl) ?_
    clear hP hD hS
    clear H locs
    intro u
    obtain ⟨n13, n14⟩ := u
    intro H locs hw (hP : va_P G vwCl [(a_0, .inr (11, [.ref a_1, .ref a_2, .ref a_3, .ref a_4, .ref a_5, .ref a_6, .ref a_7, .ref a_8, .ref a_9, .ref a_10, .ref a_11])), (a_1, .inr (9, [.ref a_12, .int n13])), (a_12, .inl (cy 0, 600, .inl n14))] H) (hD : va_D A [(a_0, .inr (11, [.ref a_1, .ref a_2, .ref a_3, .ref a_4, .ref a_5, .ref a_6, .ref a_7, .ref a_8, .ref a_9, .ref a_10, .ref a_11])), (a_1, .inr (9, [.ref a_12, .int n13])), (a_12, .inl (cy 0, 600, .inl n14))]) hS
    obtain ⟨w15, w16⟩ := hw
    refine lv_aload_n hx hb dX11_feed_42 rfl (lv_at hl 0 rfl) ?_
    refine va_get (D := G) (ci := 11) (v := .ref a_1) (C := RX11) (T := TX11) (N := 11) hx hb hts (mm_i inlX11) hown hK.1 hP 0 rfl rfl 0 (by decide) (mm_h hts mm_w16) (fun _ h9 => h9) rfl dX11_feed_43 ?_
    refine lv_iload hx hb dX11_feed_46 (lv_at hl 4 rfl) ?_
    refine mm_finv (va_runV (As := [.int i_3]) (rest := []) ⟨hx, hb, hml, hown, hts⟩ (K1_X9_add l G cy H.size a_1 i_3 a_12 n13 n14 (mm_wk w15 (by decide)) w16) (cwV 1 hts (mm_gV mm_w168 mm_w169 mm_w170 mm_w15 mm_w171) rfl rfl rfl hd_X9_add ⟨by rw [hRf]; exact Nat.le_of_ble_eq_true rfl, by rw [hRl]; exact Nat.le_of_ble_eq_true rfl⟩) (mm_preV hK hZ hS hA hP hD [1, 2] rfl rfl 1 rfl rfl rfl) rfl rfl hl.1 rfl (lv_room (Nat.le_of_ble_eq_true rfl)) dX11_feed_48 ⟨by rw [hRc]; exact Nat.le_of_ble_eq_true rfl, by rw [hRs]; exact Nat.le_of_ble_eq_true rfl⟩) hP hD hS hA (fun u : Int32 × (Nat → Int32) => [(a_0, .inr (11, [.ref a_1, .ref a_2, .ref a_3, .ref a_4, .ref a_5, .ref a_6, .ref a_7, .ref a_8, .ref a_9, .ref a_10, .ref a_11])), (a_1, .inr (9, [.ref a_12, .int u.1])), (a_12, .inl (cy 0, 600, .inl u.2))]) [1, 2] [0] (n := 3) (fun _ => rfl) (by decide +kernel) (by decide +kernel) rfl (fun _ => rfl) (wr := [(a_0, .inr (11, [.ref a_1, .ref a_2, .ref a_3, .ref a_4, .ref a_5, .ref a_6, .ref a_7, .ref a_8, .ref a_9, .ref a_10, .ref a_11]))]) rfl (fun _ => rfl) (fun _ => rfl) ?_
    clear hP hD hS
    clear H locs
    intro u
    obtain ⟨n17, n18⟩ := u
    intro H locs hw (hP : va_P G vwCl [(a_0, .inr (11, [.ref a_1, .ref a_2, .ref a_3, .ref a_4, .ref a_5, .ref a_6, .ref a_7, .ref a_8, .ref a_9, .ref a_10, .ref a_11])), (a_1, .inr (9, [.ref a_12, .int n17])), (a_12, .inl (cy 0, 600, .inl n18))] H) (hD : va_D A [(a_0, .inr (11, [.ref a_1, .ref a_2, .ref a_3, .ref a_4, .ref a_5, .ref a_6, .ref a_7, .ref a_8, .ref a_9, .ref a_10, .ref a_11])), (a_1, .inr (9, [.ref a_12, .int n17])), (a_12, .inl (cy 0, 600, .inl n18))]) hS
    obtain ⟨w19, w20⟩ := hw
    refine lv_aload_n hx hb dX11_feed_51 rfl (lv_at hl 0 rfl) ?_
    refine va_get (D := G) (ci := 11) (v := .ref a_1) (C := RX11) (T := TX11) (N := 11) hx hb hts (mm_i inlX11) hown hK.1 hP 0 rfl rfl 0 (by decide) (mm_h hts mm_w16) (fun _ h9 => h9) rfl dX11_feed_52 ?_
    refine lv_iload hx hb dX11_feed_55 (lv_at hl 5 rfl) ?_
    refine mm_finv (va_runV (As := [.int i_4]) (rest := []) ⟨hx, hb, hml, hown, hts⟩ (K1_X9_add l G cy H.size a_1 i_4 a_12 n17 n18 (mm_wk w19 (by decide)) w20) (cwV 1 hts (mm_gV mm_w168 mm_w169 mm_w170 mm_w15 mm_w171) rfl rfl rfl hd_X9_add ⟨by rw [hRf]; exact Nat.le_of_ble_eq_true rfl, by rw [hRl]; exact Nat.le_of_ble_eq_true rfl⟩) (mm_preV hK hZ hS hA hP hD [1, 2] rfl rfl 1 rfl rfl rfl) rfl rfl hl.1 rfl (lv_room (Nat.le_of_ble_eq_true rfl)) dX11_feed_57 ⟨by rw [hRc]; exact Nat.le_of_ble_eq_true rfl, by rw [hRs]; exact Nat.le_of_ble_eq_true rfl⟩) hP hD hS hA (fun u : Int32 × (Nat → Int32) => [(a_0, .inr (11, [.ref a_1, .ref a_2, .ref a_3, .ref a_4, .ref a_5, .ref a_6, .ref a_7, .ref a_8, .ref a_9, .ref a_10, .ref a_11])), (a_1, .inr (9, [.ref a_12, .int u.1])), (a_12, .inl (cy 0, 600, .inl u.2))]) [1, 2] [0] (n := 3) (fun _ => rfl) (by decide +kernel) (by decide +kernel) rfl (fun _ => rfl) (wr := [(a_0, .inr (11, [.ref a_1, .ref a_2, .ref a_3, .ref a_4, .ref a_5, .ref a_6, .ref a_7, .ref a_8, .ref a_9, .ref a_10, .ref a_11]))]) rfl (fun _ => rfl) (fun _ => rfl) ?_
    clear hP hD hS
    clear H locs
    intro u
    obtain ⟨n21, n22⟩ := u
    intro H locs hw (hP : va_P G vwCl [(a_0, .inr (11, [.ref a_1, .ref a_2, .ref a_3, .ref a_4, .ref a_5, .ref a_6, .ref a_7, .ref a_8, .ref a_9, .ref a_10, .ref a_11])), (a_1, .inr (9, [.ref a_12, .int n21])), (a_12, .inl (cy 0, 600, .inl n22))] H) (hD : va_D A [(a_0, .inr (11, [.ref a_1, .ref a_2, .ref a_3, .ref a_4, .ref a_5, .ref a_6, .ref a_7, .ref a_8, .ref a_9, .ref a_10, .ref a_11])), (a_1, .inr (9, [.ref a_12, .int n21])), (a_12, .inl (cy 0, 600, .inl n22))]) hS
    obtain ⟨w23, w24⟩ := hw
    refine lv_aload_n hx hb dX11_feed_60 rfl (lv_at hl 0 rfl) ?_
    refine va_get (D := G) (ci := 11) (v := .ref a_1) (C := RX11) (T := TX11) (N := 11) hx hb hts (mm_i inlX11) hown hK.1 hP 0 rfl rfl 0 (by decide) (mm_h hts mm_w16) (fun _ h9 => h9) rfl dX11_feed_61 ?_
    refine va_get (D := G) (ci := 9) (v := .int n21) (C := RX9) (T := TX9) (N := 2) hx hb hts (mm_i inlX9) hown hK.1 hP 1 rfl rfl 1 (by decide) (mm_h hts mm_w167) (fun _ h9 => h9) rfl dX11_feed_64 ?_
    subst hAe
    rw [hQ]
    exact W.iret (v := n21) hx hb hr (fun t ht hW => ⟨⟨n21, (n21, n22), rfl, ⟨w23, w24, (mm_wk w23 (by decide))⟩, by rw [ht]; exact hP, hK.warm hW, hD⟩, hS.F ht⟩) hS.2.2 dX11_feed_67
  · have q25 := mm_ltR (lo := 601) (mm_nle c2) mm_k600 rv1 (by decide)
    have q26 : mm_rg i_5 581 600 := mm_unadd tv1 q25 h0 (by decide) (by decide)
    refine lv_iconst (v := (-1)) hx hb dX11_feed_16 (by decide) ?_
    subst hAe
    rw [hQ]
    exact W.iret (v := (-1)) hx hb hr (fun t ht hW => ⟨⟨(-1), (i_5, f_0), rfl, ⟨(mm_wk q26 (by decide)), h1, (mm_wk mm_km1 (by decide))⟩, by rw [ht]; exact hP, hK.warm hW, hD⟩, hS.F ht⟩) hS.2.2 dX11_feed_17

set_option maxHeartbeats 4000000 in
set_option maxRecDepth 100000 in
theorem K3_X11_end (l : Launch) (G : va_G) (cy : Nat → ClassId) (sz : Nat) (a_0 : Nat) (i_0 : Int32) (a_1 : Nat) (a_2 : Nat) (a_3 : Nat) (a_4 : Nat) (a_5 : Nat) (a_6 : Nat) (a_7 : Nat) (a_8 : Nat) (a_9 : Nat) (a_10 : Nat) (a_11 : Nat) (a_12 : Nat) (i_1 : Int32) (h0 : mm_rg i_1 0 600)  : mm_CI l yX11_end (mm_ws yX11_end cX11_end 2 (some .int)) ({ frames := 0, cells := 0, slots := 0, locals := 0 } : Room) G cy sz [(a_0, .inr (11, [.ref a_1, .ref a_2, .ref a_3, .ref a_4, .ref a_5, .ref a_6, .ref a_7, .ref a_8, .ref a_9, .ref a_10, .ref a_11])), (a_1, .inr (9, [.ref a_12, .int i_1]))] [.ref a_0, .int i_0] (fun u : Int32 => [(a_0, .inr (11, [.ref a_1, .ref a_2, .ref a_3, .ref a_4, .ref a_5, .ref a_6, .ref a_7, .ref a_8, .ref a_9, .ref a_10, .ref a_11])), (a_1, .inr (9, [.ref a_12, .int u]))]) (fun (r : Int32) (u : Int32) => mm_rg u 0 600 ∧ mm_rg r (-1) 600) 0 0 := by
  refine mm_begin (lv := [(0, .ref a_0), (1, .int i_0)]) (by decide) (Nat.le_of_ble_eq_true rfl) rfl ?_
  intro p e s m below meth c A ls R args Q H locs hRe hQ hAe hx hb hr hlocks hml hown hnm hts hsz hA hS hP hK hD hZ hl
  have hRf : R.frames = 0 := by rw [hRe]
  have hRl : R.locals = 0 := by rw [hRe]
  have hRc : R.cells = 0 := by rw [hRe]
  have hRs : R.slots = 0 := by rw [hRe]
  refine lv_iload_n hx hb dX11_end_0 rfl (lv_at hl 1 rfl) ?_
  refine lv_if_lt (tgt := 15) hx hb dX11_end_1 (by decide) (fun c1 => ?_) (fun c1 => ?_)
  · have q2 := mm_ltL (h := (-1)) (mm_lt c1) (mm_top i_0) mm_k0 (by decide)
    refine lv_iconst (v := (-1)) hx hb dX11_end_15 (by decide) ?_
    subst hAe
    rw [hQ]
    exact W.iret (v := (-1)) hx hb hr (fun t ht hW => ⟨⟨(-1), i_1, rfl, ⟨h0, (mm_wk mm_km1 (by decide))⟩, by rw [ht]; exact hP, hK.warm hW, hD⟩, hS.F ht⟩) hS.2.2 dX11_end_16
  · have q3 := mm_leR (mm_nlt c1) mm_k0 (mm_top i_0)
    refine lv_iload_n hx hb dX11_end_4 rfl (lv_at hl 1 rfl) ?_
    refine lv_aload_n hx hb dX11_end_5 rfl (lv_at hl 0 rfl) ?_
    refine va_get (D := G) (ci := 11) (v := .ref a_1) (C := RX11) (T := TX11) (N := 11) hx hb hts (mm_i inlX11) hown hK.1 hP 0 rfl rfl 0 (by decide) (mm_h hts mm_w16) (fun _ h9 => h9) rfl dX11_end_6 ?_
    refine va_get (D := G) (ci := 9) (v := .int i_1) (C := RX9) (T := TX9) (N := 2) hx hb hts (mm_i inlX9) hown hK.1 hP 1 rfl rfl 1 (by decide) (mm_h hts mm_w167) (fun _ h9 => h9) rfl dX11_end_9 ?_
    refine lv_icmp_le (tgt := 17) hx hb dX11_end_12 (by decide) (fun c4 => ?_) (fun c4 => ?_)
    · have q5 := mm_leL (mm_le c4) q3 h0
      refine lv_aload_n hx hb dX11_end_17 rfl (lv_at hl 0 rfl) ?_
      refine va_get (D := G) (ci := 11) (v := .ref a_1) (C := RX11) (T := TX11) (N := 11) hx hb hts (mm_i inlX11) hown hK.1 hP 0 rfl rfl 0 (by decide) (mm_h hts mm_w16) (fun _ h9 => h9) rfl dX11_end_18 ?_
      refine lv_iload_n hx hb dX11_end_21 rfl (lv_at hl 1 rfl) ?_
      refine va_put (D := G) (ci := 9) (v := .int i_0) (ty := tyX9 1) (C := RX9) (T := TX9) (N := 2) hx hb hts (mm_i inlX9) tyX9 tyX9_ok nmX9 hown hK.1 hP hD hS 1 rfl rfl 1 (by decide) (mm_h hts mm_w167) (fun _ h9 => h9) rfl (tyX9_ok 1 (by decide)) rfl rfl (Nat.le_of_ble_eq_true rfl) dX11_end_22 ?_
      clear hP hD hS
      clear H locs
      intro H locs (hP : va_P G vwCl [(a_0, .inr (11, [.ref a_1, .ref a_2, .ref a_3, .ref a_4, .ref a_5, .ref a_6, .ref a_7, .ref a_8, .ref a_9, .ref a_10, .ref a_11])), (a_1, .inr (9, [.ref a_12, .int i_0]))] H) (hD : va_D A [(a_0, .inr (11, [.ref a_1, .ref a_2, .ref a_3, .ref a_4, .ref a_5, .ref a_6, .ref a_7, .ref a_8, .ref a_9, .ref a_10, .ref a_11])), (a_1, .inr (9, [.ref a_12, .int i_0]))]) hS
      refine lv_iload_n hx hb dX11_end_25 rfl (lv_at hl 1 rfl) ?_
      subst hAe
      rw [hQ]
      exact W.iret (v := i_0) hx hb hr (fun t ht hW => ⟨⟨i_0, i_0, rfl, ⟨q5, (mm_wk q5 (by decide))⟩, by rw [ht]; exact hP, hK.warm hW, hD⟩, hS.F ht⟩) hS.2.2 dX11_end_26
    · have q6 := mm_ltR (lo := 1) (mm_nle c4) h0 q3 (by decide)
      refine lv_iconst (v := (-1)) hx hb dX11_end_15 (by decide) ?_
      subst hAe
      rw [hQ]
      exact W.iret (v := (-1)) hx hb hr (fun t ht hW => ⟨⟨(-1), i_1, rfl, ⟨h0, (mm_wk mm_km1 (by decide))⟩, by rw [ht]; exact hP, hK.warm hW, hD⟩, hS.F ht⟩) hS.2.2 dX11_end_16

set_option maxHeartbeats 4000000 in
set_option maxRecDepth 100000 in
theorem K4_J7_fill_53178 (l : Launch) (G : va_G) (cy : Nat → ClassId) (sz : Nat) (a_0 : Nat) (f_0 : Nat → Int32) (h0 : mm_ar f_0 0 7)  : mm_CV l yJ7_fill_53178 (mm_ws yJ7_fill_53178 cJ7_fill_53178 4 (none)) ({ frames := 0, cells := 0, slots := 0, locals := 0 } : Room) G cy sz [(a_0, .inl (cy 1, 3, .inl f_0))] [.ref a_0, .int 0] (fun u : (Nat → Int32) => [(a_0, .inl (cy 1, 3, .inl u))]) (fun u : (Nat → Int32) => mm_ar u 0 7) 0 0 := by
  refine mm_begin (lv := [(0, .ref a_0), (1, .int 0)]) (by decide) (Nat.le_of_ble_eq_true rfl) rfl ?_
  intro p e s m below meth c A ls R args Q H locs hRe hQ hAe hx hb hr hlocks hml hown hnm hts hsz hA hS hP hK hD hZ hl
  have hRf : R.frames = 0 := by rw [hRe]
  have hRl : R.locals = 0 := by rw [hRe]
  have hRc : R.cells = 0 := by rw [hRe]
  have hRs : R.slots = 0 := by rw [hRe]
  refine lv_iconst (v := 0) hx hb dJ7_fill_53178_0 (by decide) ?_
  refine lv_istore_n (lv' := [(2, .int 0), (0, .ref a_0), (1, .int 0)]) hx hb dJ7_fill_53178_1 rfl hl (by decide) rfl ?_
  clear hl
  clear ls
  intro ls hl
  refine lv_aload_n hx hb dJ7_fill_53178_2 rfl (lv_at hl 1 rfl) ?_
  refine va_alen (v := 3) hx hb hK.1 hP 0 1 rfl rfl rfl dJ7_fill_53178_3 ?_
  refine lv_istore_n (lv' := [(3, .int 3), (2, .int 0), (0, .ref a_0), (1, .int 0)]) hx hb dJ7_fill_53178_4 rfl hl (by decide) rfl ?_
  clear hl
  clear ls
  intro ls hl
  have L5_22 : ∀ (n : Nat) (x5_2_21 : Int32) (z5_0_22 : Nat → Int32), mm_rg x5_2_21 0 3 → mm_ar z5_0_22 0 7 → (3 - x5_2_21.toInt).toNat < n → ∀ (H : Heap) (locs : List Loc), va_P G vwCl [(a_0, .inl (cy 1, 3, .inl z5_0_22))] H → va_D A [(a_0, .inl (cy 1, 3, .inl z5_0_22))] → va_S A s.heap H locs → ∀ (ls : Array Slot), lv_has ls 4 [(3, .int 3), (2, .int x5_2_21), (0, .ref a_0), (1, .int 0)] → W p l e R s m args below meth c H locs 0 0 Q (F0 m 5 ls []) := by
    intro n
    induction n with
    | zero => intro x5_2_21 z5_0_22 rx5_2_21 rz5_0_22 hm; exact absurd hm (Nat.not_lt_zero _)
    | succ n ih5 =>
      intro x5_2_21 z5_0_22 rx5_2_21 rz5_0_22 hm5 H locs hP hD hS ls hl
      refine lv_iload_n hx hb dJ7_fill_53178_5 rfl (lv_at hl 1 rfl) ?_
      refine lv_iload_n hx hb dJ7_fill_53178_6 rfl (lv_at hl 0 rfl) ?_
      refine lv_icmp_ge (tgt := 20) hx hb dJ7_fill_53178_7 (by decide) (fun c24 => ?_) (fun c24 => ?_)
      · have q25 := mm_leR (mm_le c24) mm_k3 rx5_2_21
        subst hAe
        rw [hQ]
        exact W.vret hx hb hr (fun t ht hW => ⟨⟨z5_0_22, rfl, rz5_0_22, by rw [ht]; exact hP, hK.warm hW, hD⟩, hS.F ht⟩) hS.2.2 dJ7_fill_53178_20
      · have q26 := mm_ltL (h := 2) (mm_nle c24) rx5_2_21 mm_k3 (by decide)
        refine lv_aload_n hx hb dJ7_fill_53178_10 rfl (lv_at hl 2 rfl) ?_
        refine lv_iload_n hx hb dJ7_fill_53178_11 rfl (lv_at hl 1 rfl) ?_
        refine lv_iload_n hx hb dJ7_fill_53178_12 rfl (lv_at hl 3 rfl) ?_
        refine va_iast hx hb hK.1 hP hD hS 0 1 rfl rfl (mm_in q26 (by decide)) dJ7_fill_53178_13 ?_
        clear hP hD hS
        clear H locs
        obtain ⟨g27, eg27⟩ : ∃ z : Nat → Int32, z = upd z5_0_22 x5_2_21.toNatClampNeg 0 := ⟨_, rfl⟩
        rw [← eg27]
        intro H locs (hP : va_P G vwCl [(a_0, .inl (cy 1, 3, .inl g27))] H) (hD : va_D A [(a_0, .inl (cy 1, 3, .inl g27))]) hS
        have rg27 : mm_ar g27 0 7 := by rw [eg27]; exact mm_ar_upd (mm_ar_wk rz5_0_22 (by decide)) (mm_wk mm_k0 (by decide)) _
        obtain ⟨v28, ev28⟩ : ∃ y : Int32, y = x5_2_21 + 1 := ⟨_, rfl⟩
        refine lv_iinc (v := v28) (lv' := [(2, .int v28), (3, .int 3), (0, .ref a_0), (1, .int 0)]) hx hb dJ7_fill_53178_14 hl (k := 1) rfl (by rw [ev28]; rfl) (by decide) rfl ?_
        clear hl
        clear ls
        intro ls hl
        have rv28 : mm_rg v28 1 3 := mm_add ev28 q26 mm_k1 (by decide) (by decide)
        have tv28 := mm_addEc ev28 q26 mm_k1 (by decide) (k := 1) (by decide)
        refine lv_goto (tgt := 5) hx hb dJ7_fill_53178_17 (by decide) ?_
        exact ih5 v28 g27 (mm_wk rv28 (by decide)) rg27 (mm_mu hm5 tv28 (by decide) (rv28).2 (by decide)) H locs hP hD hS ls (lv_sub hl [1, 0, 2, 3] rfl)
  exact L5_22 _ 0 f_0 (mm_wk mm_k0 (by decide)) h0 (Nat.lt_succ_self _) H locs hP hD hS ls (lv_sub hl [0, 1, 2, 3] rfl)

set_option maxHeartbeats 4000000 in
set_option maxRecDepth 100000 in
theorem K5_J7_fill_53178 (l : Launch) (G : va_G) (cy : Nat → ClassId) (sz : Nat) (a_0 : Nat) (f_0 : Nat → Int32) (h0 : mm_ar f_0 0 8)  : mm_CV l yJ7_fill_53178 (mm_ws yJ7_fill_53178 cJ7_fill_53178 4 (none)) ({ frames := 0, cells := 0, slots := 0, locals := 0 } : Room) G cy sz [(a_0, .inl (cy 1, 6, .inl f_0))] [.ref a_0, .int 0] (fun u : (Nat → Int32) => [(a_0, .inl (cy 1, 6, .inl u))]) (fun u : (Nat → Int32) => mm_ar u 0 8) 0 0 := by
  refine mm_begin (lv := [(0, .ref a_0), (1, .int 0)]) (by decide) (Nat.le_of_ble_eq_true rfl) rfl ?_
  intro p e s m below meth c A ls R args Q H locs hRe hQ hAe hx hb hr hlocks hml hown hnm hts hsz hA hS hP hK hD hZ hl
  have hRf : R.frames = 0 := by rw [hRe]
  have hRl : R.locals = 0 := by rw [hRe]
  have hRc : R.cells = 0 := by rw [hRe]
  have hRs : R.slots = 0 := by rw [hRe]
  refine lv_iconst (v := 0) hx hb dJ7_fill_53178_0 (by decide) ?_
  refine lv_istore_n (lv' := [(2, .int 0), (0, .ref a_0), (1, .int 0)]) hx hb dJ7_fill_53178_1 rfl hl (by decide) rfl ?_
  clear hl
  clear ls
  intro ls hl
  refine lv_aload_n hx hb dJ7_fill_53178_2 rfl (lv_at hl 1 rfl) ?_
  refine va_alen (v := 6) hx hb hK.1 hP 0 1 rfl rfl rfl dJ7_fill_53178_3 ?_
  refine lv_istore_n (lv' := [(3, .int 6), (2, .int 0), (0, .ref a_0), (1, .int 0)]) hx hb dJ7_fill_53178_4 rfl hl (by decide) rfl ?_
  clear hl
  clear ls
  intro ls hl
  have L5_34 : ∀ (n : Nat) (x5_2_33 : Int32) (z5_0_34 : Nat → Int32), mm_rg x5_2_33 0 6 → mm_ar z5_0_34 0 8 → (6 - x5_2_33.toInt).toNat < n → ∀ (H : Heap) (locs : List Loc), va_P G vwCl [(a_0, .inl (cy 1, 6, .inl z5_0_34))] H → va_D A [(a_0, .inl (cy 1, 6, .inl z5_0_34))] → va_S A s.heap H locs → ∀ (ls : Array Slot), lv_has ls 4 [(3, .int 6), (2, .int x5_2_33), (0, .ref a_0), (1, .int 0)] → W p l e R s m args below meth c H locs 0 0 Q (F0 m 5 ls []) := by
    intro n
    induction n with
    | zero => intro x5_2_33 z5_0_34 rx5_2_33 rz5_0_34 hm; exact absurd hm (Nat.not_lt_zero _)
    | succ n ih5 =>
      intro x5_2_33 z5_0_34 rx5_2_33 rz5_0_34 hm5 H locs hP hD hS ls hl
      refine lv_iload_n hx hb dJ7_fill_53178_5 rfl (lv_at hl 1 rfl) ?_
      refine lv_iload_n hx hb dJ7_fill_53178_6 rfl (lv_at hl 0 rfl) ?_
      refine lv_icmp_ge (tgt := 20) hx hb dJ7_fill_53178_7 (by decide) (fun c36 => ?_) (fun c36 => ?_)
      · have q37 := mm_leR (mm_le c36) mm_k6 rx5_2_33
        subst hAe
        rw [hQ]
        exact W.vret hx hb hr (fun t ht hW => ⟨⟨z5_0_34, rfl, rz5_0_34, by rw [ht]; exact hP, hK.warm hW, hD⟩, hS.F ht⟩) hS.2.2 dJ7_fill_53178_20
      · have q38 := mm_ltL (h := 5) (mm_nle c36) rx5_2_33 mm_k6 (by decide)
        refine lv_aload_n hx hb dJ7_fill_53178_10 rfl (lv_at hl 2 rfl) ?_
        refine lv_iload_n hx hb dJ7_fill_53178_11 rfl (lv_at hl 1 rfl) ?_
        refine lv_iload_n hx hb dJ7_fill_53178_12 rfl (lv_at hl 3 rfl) ?_
        refine va_iast hx hb hK.1 hP hD hS 0 1 rfl rfl (mm_in q38 (by decide)) dJ7_fill_53178_13 ?_
        clear hP hD hS
        clear H locs
        obtain ⟨g39, eg39⟩ : ∃ z : Nat → Int32, z = upd z5_0_34 x5_2_33.toNatClampNeg 0 := ⟨_, rfl⟩
        rw [← eg39]
        intro H locs (hP : va_P G vwCl [(a_0, .inl (cy 1, 6, .inl g39))] H) (hD : va_D A [(a_0, .inl (cy 1, 6, .inl g39))]) hS
        have rg39 : mm_ar g39 0 8 := by rw [eg39]; exact mm_ar_upd (mm_ar_wk rz5_0_34 (by decide)) (mm_wk mm_k0 (by decide)) _
        obtain ⟨v40, ev40⟩ : ∃ y : Int32, y = x5_2_33 + 1 := ⟨_, rfl⟩
        refine lv_iinc (v := v40) (lv' := [(2, .int v40), (3, .int 6), (0, .ref a_0), (1, .int 0)]) hx hb dJ7_fill_53178_14 hl (k := 1) rfl (by rw [ev40]; rfl) (by decide) rfl ?_
        clear hl
        clear ls
        intro ls hl
        have rv40 : mm_rg v40 1 6 := mm_add ev40 q38 mm_k1 (by decide) (by decide)
        have tv40 := mm_addEc ev40 q38 mm_k1 (by decide) (k := 1) (by decide)
        refine lv_goto (tgt := 5) hx hb dJ7_fill_53178_17 (by decide) ?_
        exact ih5 v40 g39 (mm_wk rv40 (by decide)) rg39 (mm_mu hm5 tv40 (by decide) (rv40).2 (by decide)) H locs hP hD hS ls (lv_sub hl [1, 0, 2, 3] rfl)
  exact L5_34 _ 0 f_0 (mm_wk mm_k0 (by decide)) h0 (Nat.lt_succ_self _) H locs hP hD hS ls (lv_sub hl [0, 1, 2, 3] rfl)

set_option maxHeartbeats 4000000 in
set_option maxRecDepth 100000 in
theorem K6_X0_wipe (l : Launch) (G : va_G) (cy : Nat → ClassId) (sz : Nat) (a_0 : Nat) (i_0 : Int32) (i_1 : Int32) (i_2 : Int32) (i_3 : Int32) (i_4 : Int32) (i_5 : Int32) (i_6 : Int32) (i_7 : Int32) (a_1 : Nat) (a_2 : Nat) (a_3 : Nat) (a_4 : Nat) (a_5 : Nat) (a_6 : Nat) (a_7 : Nat) (a_8 : Nat) (a_9 : Nat) (a_10 : Nat) (f_0 : Nat → Int32) (f_1 : Nat → Int32) (f_2 : Nat → Int32) (h0 : mm_rg i_1 0 10) (h1 : mm_rg i_2 0 99) (h2 : mm_rg i_3 0 99) (h3 : mm_rg i_4 0 9) (h4 : mm_rg i_5 0 3) (h5 : mm_rg i_6 0 6) (h6 : mm_rg i_7 0 30) (h7 : mm_ar f_0 0 7) (h8 : mm_ar f_1 0 8) (h9 : mm_ar f_2 0 9)  : mm_CV l yX0_wipe (mm_ws yX0_wipe cX0_wipe 2 (none)) ({ frames := 1, cells := 0, slots := 0, locals := 23 } : Room) G cy sz [(a_0, .inr (0, [.int i_0, .int i_1, .int i_2, .int i_3, .int i_4, .int i_5, .int i_6, .int i_7, .ref a_1, .ref a_2, .ref a_3, .ref a_4, .ref a_5, .ref a_6, .ref a_7, .ref a_8, .ref a_9, .ref a_10])), (a_3, .inl (cy 1, 3, .inl f_0)), (a_5, .inl (cy 1, 6, .inl f_1)), (a_7, .inl (cy 1, 30, .inl f_2))] [.ref a_0] (fun u : (Nat → Int32) × (Nat → Int32) × (Nat → Int32) => [(a_0, .inr (0, [.int 0, .int 0, .int 0, .int 0, .int 0, .int 0, .int 0, .int 0, .ref a_1, .ref a_2, .ref a_3, .ref a_4, .ref a_5, .ref a_6, .ref a_7, .ref a_8, .ref a_9, .ref a_10])), (a_3, .inl (cy 1, 3, .inl u.1)), (a_5, .inl (cy 1, 6, .inl u.2.1)), (a_7, .inl (cy 1, 30, .inl u.2.2))]) (fun u : (Nat → Int32) × (Nat → Int32) × (Nat → Int32) => mm_ar u.1 0 7 ∧ mm_ar u.2.1 0 8 ∧ mm_ar u.2.2 0 9) 0 0 := by
  refine mm_begin (lv := [(0, .ref a_0)]) (by decide) (Nat.le_of_ble_eq_true rfl) rfl ?_
  intro p e s m below meth c A ls R args Q H locs hRe hQ hAe hx hb hr hlocks hml hown hnm hts hsz hA hS hP hK hD hZ hl
  have hRf : R.frames = 1 := by rw [hRe]
  have hRl : R.locals = 23 := by rw [hRe]
  have hRc : R.cells = 0 := by rw [hRe]
  have hRs : R.slots = 0 := by rw [hRe]
  refine lv_aload_n hx hb dX0_wipe_0 rfl (lv_at hl 0 rfl) ?_
  refine lv_iconst (v := 0) hx hb dX0_wipe_1 (by decide) ?_
  refine va_put (D := G) (ci := 0) (v := .int 0) (ty := tyX0 0) (C := RX0) (T := TX0) (N := 18) hx hb hts (mm_i inlX0) tyX0 tyX0_ok nmX0 hown hK.1 hP hD hS 0 rfl rfl 0 (by decide) (mm_h hts mm_w215) (fun _ h9 => h9) rfl (tyX0_ok 0 (by decide)) rfl rfl (Nat.le_of_ble_eq_true rfl) dX0_wipe_2 ?_
  clear hP hD hS
  clear H locs
  intro H locs (hP : va_P G vwCl [(a_0, .inr (0, [.int 0, .int i_1, .int i_2, .int i_3, .int i_4, .int i_5, .int i_6, .int i_7, .ref a_1, .ref a_2, .ref a_3, .ref a_4, .ref a_5, .ref a_6, .ref a_7, .ref a_8, .ref a_9, .ref a_10])), (a_3, .inl (cy 1, 3, .inl f_0)), (a_5, .inl (cy 1, 6, .inl f_1)), (a_7, .inl (cy 1, 30, .inl f_2))] H) (hD : va_D A [(a_0, .inr (0, [.int 0, .int i_1, .int i_2, .int i_3, .int i_4, .int i_5, .int i_6, .int i_7, .ref a_1, .ref a_2, .ref a_3, .ref a_4, .ref a_5, .ref a_6, .ref a_7, .ref a_8, .ref a_9, .ref a_10])), (a_3, .inl (cy 1, 3, .inl f_0)), (a_5, .inl (cy 1, 6, .inl f_1)), (a_7, .inl (cy 1, 30, .inl f_2))]) hS
  refine lv_aload_n hx hb dX0_wipe_5 rfl (lv_at hl 0 rfl) ?_
  refine lv_iconst (v := 0) hx hb dX0_wipe_6 (by decide) ?_
  refine va_put (D := G) (ci := 0) (v := .int 0) (ty := tyX0 1) (C := RX0) (T := TX0) (N := 18) hx hb hts (mm_i inlX0) tyX0 tyX0_ok nmX0 hown hK.1 hP hD hS 0 rfl rfl 1 (by decide) (mm_h hts mm_w216) (fun _ h9 => h9) rfl (tyX0_ok 1 (by decide)) rfl rfl (Nat.le_of_ble_eq_true rfl) dX0_wipe_7 ?_
  clear hP hD hS
  clear H locs
  intro H locs (hP : va_P G vwCl [(a_0, .inr (0, [.int 0, .int 0, .int i_2, .int i_3, .int i_4, .int i_5, .int i_6, .int i_7, .ref a_1, .ref a_2, .ref a_3, .ref a_4, .ref a_5, .ref a_6, .ref a_7, .ref a_8, .ref a_9, .ref a_10])), (a_3, .inl (cy 1, 3, .inl f_0)), (a_5, .inl (cy 1, 6, .inl f_1)), (a_7, .inl (cy 1, 30, .inl f_2))] H) (hD : va_D A [(a_0, .inr (0, [.int 0, .int 0, .int i_2, .int i_3, .int i_4, .int i_5, .int i_6, .int i_7, .ref a_1, .ref a_2, .ref a_3, .ref a_4, .ref a_5, .ref a_6, .ref a_7, .ref a_8, .ref a_9, .ref a_10])), (a_3, .inl (cy 1, 3, .inl f_0)), (a_5, .inl (cy 1, 6, .inl f_1)), (a_7, .inl (cy 1, 30, .inl f_2))]) hS
  refine lv_aload_n hx hb dX0_wipe_10 rfl (lv_at hl 0 rfl) ?_
  refine lv_iconst (v := 0) hx hb dX0_wipe_11 (by decide) ?_
  refine va_put (D := G) (ci := 0) (v := .int 0) (ty := tyX0 2) (C := RX0) (T := TX0) (N := 18) hx hb hts (mm_i inlX0) tyX0 tyX0_ok nmX0 hown hK.1 hP hD hS 0 rfl rfl 2 (by decide) (mm_h hts mm_w217) (fun _ h9 => h9) rfl (tyX0_ok 2 (by decide)) rfl rfl (Nat.le_of_ble_eq_true rfl) dX0_wipe_12 ?_
  clear hP hD hS
  clear H locs
  intro H locs (hP : va_P G vwCl [(a_0, .inr (0, [.int 0, .int 0, .int 0, .int i_3, .int i_4, .int i_5, .int i_6, .int i_7, .ref a_1, .ref a_2, .ref a_3, .ref a_4, .ref a_5, .ref a_6, .ref a_7, .ref a_8, .ref a_9, .ref a_10])), (a_3, .inl (cy 1, 3, .inl f_0)), (a_5, .inl (cy 1, 6, .inl f_1)), (a_7, .inl (cy 1, 30, .inl f_2))] H) (hD : va_D A [(a_0, .inr (0, [.int 0, .int 0, .int 0, .int i_3, .int i_4, .int i_5, .int i_6, .int i_7, .ref a_1, .ref a_2, .ref a_3, .ref a_4, .ref a_5, .ref a_6, .ref a_7, .ref a_8, .ref a_9, .ref a_10])), (a_3, .inl (cy 1, 3, .inl f_0)), (a_5, .inl (cy 1, 6, .inl f_1)), (a_7, .inl (cy 1, 30, .inl f_2))]) hS
  refine lv_aload_n hx hb dX0_wipe_15 rfl (lv_at hl 0 rfl) ?_
  refine lv_iconst (v := 0) hx hb dX0_wipe_16 (by decide) ?_
  refine va_put (D := G) (ci := 0) (v := .int 0) (ty := tyX0 3) (C := RX0) (T := TX0) (N := 18) hx hb hts (mm_i inlX0) tyX0 tyX0_ok nmX0 hown hK.1 hP hD hS 0 rfl rfl 3 (by decide) (mm_h hts mm_w218) (fun _ h9 => h9) rfl (tyX0_ok 3 (by decide)) rfl rfl (Nat.le_of_ble_eq_true rfl) dX0_wipe_17 ?_
  clear hP hD hS
  clear H locs
  intro H locs (hP : va_P G vwCl [(a_0, .inr (0, [.int 0, .int 0, .int 0, .int 0, .int i_4, .int i_5, .int i_6, .int i_7, .ref a_1, .ref a_2, .ref a_3, .ref a_4, .ref a_5, .ref a_6, .ref a_7, .ref a_8, .ref a_9, .ref a_10])), (a_3, .inl (cy 1, 3, .inl f_0)), (a_5, .inl (cy 1, 6, .inl f_1)), (a_7, .inl (cy 1, 30, .inl f_2))] H) (hD : va_D A [(a_0, .inr (0, [.int 0, .int 0, .int 0, .int 0, .int i_4, .int i_5, .int i_6, .int i_7, .ref a_1, .ref a_2, .ref a_3, .ref a_4, .ref a_5, .ref a_6, .ref a_7, .ref a_8, .ref a_9, .ref a_10])), (a_3, .inl (cy 1, 3, .inl f_0)), (a_5, .inl (cy 1, 6, .inl f_1)), (a_7, .inl (cy 1, 30, .inl f_2))]) hS
  refine lv_aload_n hx hb dX0_wipe_20 rfl (lv_at hl 0 rfl) ?_
  refine lv_iconst (v := 0) hx hb dX0_wipe_21 (by decide) ?_
  refine va_put (D := G) (ci := 0) (v := .int 0) (ty := tyX0 4) (C := RX0) (T := TX0) (N := 18) hx hb hts (mm_i inlX0) tyX0 tyX0_ok nmX0 hown hK.1 hP hD hS 0 rfl rfl 4 (by decide) (mm_h hts mm_w219) (fun _ h9 => h9) rfl (tyX0_ok 4 (by decide)) rfl rfl (Nat.le_of_ble_eq_true rfl) dX0_wipe_22 ?_
  clear hP hD hS
  clear H locs
  intro H locs (hP : va_P G vwCl [(a_0, .inr (0, [.int 0, .int 0, .int 0, .int 0, .int 0, .int i_5, .int i_6, .int i_7, .ref a_1, .ref a_2, .ref a_3, .ref a_4, .ref a_5, .ref a_6, .ref a_7, .ref a_8, .ref a_9, .ref a_10])), (a_3, .inl (cy 1, 3, .inl f_0)), (a_5, .inl (cy 1, 6, .inl f_1)), (a_7, .inl (cy 1, 30, .inl f_2))] H) (hD : va_D A [(a_0, .inr (0, [.int 0, .int 0, .int 0, .int 0, .int 0, .int i_5, .int i_6, .int i_7, .ref a_1, .ref a_2, .ref a_3, .ref a_4, .ref a_5, .ref a_6, .ref a_7, .ref a_8, .ref a_9, .ref a_10])), (a_3, .inl (cy 1, 3, .inl f_0)), (a_5, .inl (cy 1, 6, .inl f_1)), (a_7, .inl (cy 1, 30, .inl f_2))]) hS
  refine lv_aload_n hx hb dX0_wipe_25 rfl (lv_at hl 0 rfl) ?_
  refine lv_iconst (v := 0) hx hb dX0_wipe_26 (by decide) ?_
  refine va_put (D := G) (ci := 0) (v := .int 0) (ty := tyX0 5) (C := RX0) (T := TX0) (N := 18) hx hb hts (mm_i inlX0) tyX0 tyX0_ok nmX0 hown hK.1 hP hD hS 0 rfl rfl 5 (by decide) (mm_h hts mm_w220) (fun _ h9 => h9) rfl (tyX0_ok 5 (by decide)) rfl rfl (Nat.le_of_ble_eq_true rfl) dX0_wipe_27 ?_
  clear hP hD hS
  clear H locs
  intro H locs (hP : va_P G vwCl [(a_0, .inr (0, [.int 0, .int 0, .int 0, .int 0, .int 0, .int 0, .int i_6, .int i_7, .ref a_1, .ref a_2, .ref a_3, .ref a_4, .ref a_5, .ref a_6, .ref a_7, .ref a_8, .ref a_9, .ref a_10])), (a_3, .inl (cy 1, 3, .inl f_0)), (a_5, .inl (cy 1, 6, .inl f_1)), (a_7, .inl (cy 1, 30, .inl f_2))] H) (hD : va_D A [(a_0, .inr (0, [.int 0, .int 0, .int 0, .int 0, .int 0, .int 0, .int i_6, .int i_7, .ref a_1, .ref a_2, .ref a_3, .ref a_4, .ref a_5, .ref a_6, .ref a_7, .ref a_8, .ref a_9, .ref a_10])), (a_3, .inl (cy 1, 3, .inl f_0)), (a_5, .inl (cy 1, 6, .inl f_1)), (a_7, .inl (cy 1, 30, .inl f_2))]) hS
  refine lv_aload_n hx hb dX0_wipe_30 rfl (lv_at hl 0 rfl) ?_
  refine lv_iconst (v := 0) hx hb dX0_wipe_31 (by decide) ?_
  refine va_put (D := G) (ci := 0) (v := .int 0) (ty := tyX0 6) (C := RX0) (T := TX0) (N := 18) hx hb hts (mm_i inlX0) tyX0 tyX0_ok nmX0 hown hK.1 hP hD hS 0 rfl rfl 6 (by decide) (mm_h hts mm_w221) (fun _ h9 => h9) rfl (tyX0_ok 6 (by decide)) rfl rfl (Nat.le_of_ble_eq_true rfl) dX0_wipe_32 ?_
  clear hP hD hS
  clear H locs
  intro H locs (hP : va_P G vwCl [(a_0, .inr (0, [.int 0, .int 0, .int 0, .int 0, .int 0, .int 0, .int 0, .int i_7, .ref a_1, .ref a_2, .ref a_3, .ref a_4, .ref a_5, .ref a_6, .ref a_7, .ref a_8, .ref a_9, .ref a_10])), (a_3, .inl (cy 1, 3, .inl f_0)), (a_5, .inl (cy 1, 6, .inl f_1)), (a_7, .inl (cy 1, 30, .inl f_2))] H) (hD : va_D A [(a_0, .inr (0, [.int 0, .int 0, .int 0, .int 0, .int 0, .int 0, .int 0, .int i_7, .ref a_1, .ref a_2, .ref a_3, .ref a_4, .ref a_5, .ref a_6, .ref a_7, .ref a_8, .ref a_9, .ref a_10])), (a_3, .inl (cy 1, 3, .inl f_0)), (a_5, .inl (cy 1, 6, .inl f_1)), (a_7, .inl (cy 1, 30, .inl f_2))]) hS
  refine lv_aload_n hx hb dX0_wipe_35 rfl (lv_at hl 0 rfl) ?_
  refine lv_iconst (v := 0) hx hb dX0_wipe_36 (by decide) ?_
  refine va_put (D := G) (ci := 0) (v := .int 0) (ty := tyX0 7) (C := RX0) (T := TX0) (N := 18) hx hb hts (mm_i inlX0) tyX0 tyX0_ok nmX0 hown hK.1 hP hD hS 0 rfl rfl 7 (by decide) (mm_h hts mm_w222) (fun _ h9 => h9) rfl (tyX0_ok 7 (by decide)) rfl rfl (Nat.le_of_ble_eq_true rfl) dX0_wipe_37 ?_
  clear hP hD hS
  clear H locs
  intro H locs (hP : va_P G vwCl [(a_0, .inr (0, [.int 0, .int 0, .int 0, .int 0, .int 0, .int 0, .int 0, .int 0, .ref a_1, .ref a_2, .ref a_3, .ref a_4, .ref a_5, .ref a_6, .ref a_7, .ref a_8, .ref a_9, .ref a_10])), (a_3, .inl (cy 1, 3, .inl f_0)), (a_5, .inl (cy 1, 6, .inl f_1)), (a_7, .inl (cy 1, 30, .inl f_2))] H) (hD : va_D A [(a_0, .inr (0, [.int 0, .int 0, .int 0, .int 0, .int 0, .int 0, .int 0, .int 0, .ref a_1, .ref a_2, .ref a_3, .ref a_4, .ref a_5, .ref a_6, .ref a_7, .ref a_8, .ref a_9, .ref a_10])), (a_3, .inl (cy 1, 3, .inl f_0)), (a_5, .inl (cy 1, 6, .inl f_1)), (a_7, .inl (cy 1, 30, .inl f_2))]) hS
  refine lv_aload_n hx hb dX0_wipe_40 rfl (lv_at hl 0 rfl) ?_
  refine va_get (D := G) (ci := 0) (v := .ref a_3) (C := RX0) (T := TX0) (N := 18) hx hb hts (mm_i inlX0) hown hK.1 hP 0 rfl rfl 10 (by decide) (mm_h hts mm_w74) (fun _ h9 => h9) rfl dX0_wipe_41 ?_
  refine lv_iconst (v := 0) hx hb dX0_wipe_44 (by decide) ?_
  refine mm_finv (va_runS (As := [.ref a_3, .int 0]) (rest := []) ⟨hx, hb, hml, hown, hts⟩ (K4_J7_fill_53178 l G cy H.size a_3 f_0 h7) (va_cwS 2 hts (mm_gS mm_w223 mm_w224 mm_w225 mm_w226) rfl rfl rfl hs_J7_fill_53178 ⟨by rw [hRf]; exact Nat.le_of_ble_eq_true rfl, by rw [hRl]; exact Nat.le_of_ble_eq_true rfl⟩) (mm_preS hK hZ hS hA hP hD [1] rfl rfl) rfl rfl hl.1 rfl (lv_room (Nat.le_of_ble_eq_true rfl)) dX0_wipe_45 ⟨by rw [hRc]; exact Nat.le_of_ble_eq_true rfl, by rw [hRs]; exact Nat.le_of_ble_eq_true rfl⟩) hP hD hS hA (fun u : (Nat → Int32) => [(a_0, .inr (0, [.int 0, .int 0, .int 0, .int 0, .int 0, .int 0, .int 0, .int 0, .ref a_1, .ref a_2, .ref a_3, .ref a_4, .ref a_5, .ref a_6, .ref a_7, .ref a_8, .ref a_9, .ref a_10])), (a_3, .inl (cy 1, 3, .inl u)), (a_5, .inl (cy 1, 6, .inl f_1)), (a_7, .inl (cy 1, 30, .inl f_2))]) [1] [0, 2, 3] (n := 4) (fun _ => rfl) (by decide +kernel) (by decide +kernel) rfl (fun _ => rfl) (wr := [(a_0, .inr (0, [.int 0, .int 0, .int 0, .int 0, .int 0, .int 0, .int 0, .int 0, .ref a_1, .ref a_2, .ref a_3, .ref a_4, .ref a_5, .ref a_6, .ref a_7, .ref a_8, .ref a_9, .ref a_10])), (a_5, .inl (cy 1, 6, .inl f_1)), (a_7, .inl (cy 1, 30, .inl f_2))]) rfl (fun _ => rfl) (fun _ => rfl) ?_
  clear hP hD hS
  clear H locs
  intro n1 H locs hw (hP : va_P G vwCl [(a_0, .inr (0, [.int 0, .int 0, .int 0, .int 0, .int 0, .int 0, .int 0, .int 0, .ref a_1, .ref a_2, .ref a_3, .ref a_4, .ref a_5, .ref a_6, .ref a_7, .ref a_8, .ref a_9, .ref a_10])), (a_3, .inl (cy 1, 3, .inl n1)), (a_5, .inl (cy 1, 6, .inl f_1)), (a_7, .inl (cy 1, 30, .inl f_2))] H) (hD : va_D A [(a_0, .inr (0, [.int 0, .int 0, .int 0, .int 0, .int 0, .int 0, .int 0, .int 0, .ref a_1, .ref a_2, .ref a_3, .ref a_4, .ref a_5, .ref a_6, .ref a_7, .ref a_8, .ref a_9, .ref a_10])), (a_3, .inl (cy 1, 3, .inl n1)), (a_5, .inl (cy 1, 6, .inl f_1)), (a_7, .inl (cy 1, 30, .inl f_2))]) hS
  have w2 := hw
  refine lv_aload_n hx hb dX0_wipe_48 rfl (lv_at hl 0 rfl) ?_
  refine va_get (D := G) (ci := 0) (v := .ref a_5) (C := RX0) (T := TX0) (N := 18) hx hb hts (mm_i inlX0) hown hK.1 hP 0 rfl rfl 12 (by decide) (mm_h hts mm_w76) (fun _ h9 => h9) rfl dX0_wipe_49 ?_
  refine lv_iconst (v := 0) hx hb dX0_wipe_52 (by decide) ?_
  refine mm_finv (va_runS (As := [.ref a_5, .int 0]) (rest := []) ⟨hx, hb, hml, hown, hts⟩ (K5_J7_fill_53178 l G cy H.size a_5 f_1 h8) (va_cwS 2 hts (mm_gS mm_w223 mm_w224 mm_w225 mm_w226) rfl rfl rfl hs_J7_fill_53178 ⟨by rw [hRf]; exact Nat.le_of_ble_eq_true rfl, by rw [hRl]; exact Nat.le_of_ble_eq_true rfl⟩) (mm_preS hK hZ hS hA hP hD [2] rfl rfl) rfl rfl hl.1 rfl (lv_room (Nat.le_of_ble_eq_true rfl)) dX0_wipe_53 ⟨by rw [hRc]; exact Nat.le_of_ble_eq_true rfl, by rw [hRs]; exact Nat.le_of_ble_eq_true rfl⟩) hP hD hS hA (fun u : (Nat → Int32) => [(a_0, .inr (0, [.int 0, .int 0, .int 0, .int 0, .int 0, .int 0, .int 0, .int 0, .ref a_1, .ref a_2, .ref a_3, .ref a_4, .ref a_5, .ref a_6, .ref a_7, .ref a_8, .ref a_9, .ref a_10])), (a_3, .inl (cy 1, 3, .inl n1)), (a_5, .inl (cy 1, 6, .inl u)), (a_7, .inl (cy 1, 30, .inl f_2))]) [2] [0, 1, 3] (n := 4) (fun _ => rfl) (by decide +kernel) (by decide +kernel) rfl (fun _ => rfl) (wr := [(a_0, .inr (0, [.int 0, .int 0, .int 0, .int 0, .int 0, .int 0, .int 0, .int 0, .ref a_1, .ref a_2, .ref a_3, .ref a_4, .ref a_5, .ref a_6, .ref a_7, .ref a_8, .ref a_9, .ref a_10])), (a_3, .inl (cy 1, 3, .inl n1)), (a_7, .inl (cy 1, 30, .inl f_2))]) rfl (fun _ => rfl) (fun _ => rfl) ?_
  clear hP hD hS
  clear H locs
  intro n3 H locs hw (hP : va_P G vwCl [(a_0, .inr (0, [.int 0, .int 0, .int 0, .int 0, .int 0, .int 0, .int 0, .int 0, .ref a_1, .ref a_2, .ref a_3, .ref a_4, .ref a_5, .ref a_6, .ref a_7, .ref a_8, .ref a_9, .ref a_10])), (a_3, .inl (cy 1, 3, .inl n1)), (a_5, .inl (cy 1, 6, .inl n3)), (a_7, .inl (cy 1, 30, .inl f_2))] H) (hD : va_D A [(a_0, .inr (0, [.int 0, .int 0, .int 0, .int 0, .int 0, .int 0, .int 0, .int 0, .ref a_1, .ref a_2, .ref a_3, .ref a_4, .ref a_5, .ref a_6, .ref a_7, .ref a_8, .ref a_9, .ref a_10])), (a_3, .inl (cy 1, 3, .inl n1)), (a_5, .inl (cy 1, 6, .inl n3)), (a_7, .inl (cy 1, 30, .inl f_2))]) hS
  have w4 := hw
  refine lv_iconst (v := 0) hx hb dX0_wipe_56 (by decide) ?_
  refine lv_istore_n (lv' := [(1, .int 0), (0, .ref a_0)]) hx hb dX0_wipe_57 rfl hl (by decide) rfl ?_
  clear hl
  clear ls
  intro ls hl
  have L58_77 : ∀ (n : Nat) (x58_1_76 : Int32) (z58_3_77 : Nat → Int32), mm_rg x58_1_76 0 30 → mm_ar z58_3_77 0 9 → (30 - x58_1_76.toInt).toNat < n → ∀ (H : Heap) (locs : List Loc), va_P G vwCl [(a_0, .inr (0, [.int 0, .int 0, .int 0, .int 0, .int 0, .int 0, .int 0, .int 0, .ref a_1, .ref a_2, .ref a_3, .ref a_4, .ref a_5, .ref a_6, .ref a_7, .ref a_8, .ref a_9, .ref a_10])), (a_3, .inl (cy 1, 3, .inl n1)), (a_5, .inl (cy 1, 6, .inl n3)), (a_7, .inl (cy 1, 30, .inl z58_3_77))] H → va_D A [(a_0, .inr (0, [.int 0, .int 0, .int 0, .int 0, .int 0, .int 0, .int 0, .int 0, .ref a_1, .ref a_2, .ref a_3, .ref a_4, .ref a_5, .ref a_6, .ref a_7, .ref a_8, .ref a_9, .ref a_10])), (a_3, .inl (cy 1, 3, .inl n1)), (a_5, .inl (cy 1, 6, .inl n3)), (a_7, .inl (cy 1, 30, .inl z58_3_77))] → va_S A s.heap H locs → ∀ (ls : Array Slot), lv_has ls 2 [(1, .int x58_1_76), (0, .ref a_0)] → W p l e R s m args below meth c H locs 0 0 Q (F0 m 58 ls []) := by
    intro n
    induction n with
    | zero => intro x58_1_76 z58_3_77 rx58_1_76 rz58_3_77 hm; exact absurd hm (Nat.not_lt_zero _)
    | succ n ih58 =>
      intro x58_1_76 z58_3_77 rx58_1_76 rz58_3_77 hm58 H locs hP hD hS ls hl
      refine lv_iload_n hx hb dX0_wipe_58 rfl (lv_at hl 0 rfl) ?_
      refine lv_aload_n hx hb dX0_wipe_59 rfl (lv_at hl 1 rfl) ?_
      refine va_get (D := G) (ci := 0) (v := .ref a_7) (C := RX0) (T := TX0) (N := 18) hx hb hts (mm_i inlX0) hown hK.1 hP 0 rfl rfl 14 (by decide) (mm_h hts mm_w78) (fun _ h9 => h9) rfl dX0_wipe_60 ?_
      refine va_alen (v := 30) hx hb hK.1 hP 3 1 rfl rfl rfl dX0_wipe_63 ?_
      refine lv_icmp_ge (tgt := 83) hx hb dX0_wipe_64 (by decide) (fun c79 => ?_) (fun c79 => ?_)
      · have q80 := mm_leR (mm_le c79) mm_k30 rx58_1_76
        subst hAe
        rw [hQ]
        exact W.vret hx hb hr (fun t ht hW => ⟨⟨(n1, n3, z58_3_77), rfl, ⟨w2, w4, rz58_3_77⟩, by rw [ht]; exact hP, hK.warm hW, hD⟩, hS.F ht⟩) hS.2.2 dX0_wipe_83
      · have q81 := mm_ltL (h := 29) (mm_nle c79) rx58_1_76 mm_k30 (by decide)
        refine lv_aload_n hx hb dX0_wipe_67 rfl (lv_at hl 1 rfl) ?_
        refine va_get (D := G) (ci := 0) (v := .ref a_7) (C := RX0) (T := TX0) (N := 18) hx hb hts (mm_i inlX0) hown hK.1 hP 0 rfl rfl 14 (by decide) (mm_h hts mm_w78) (fun _ h9 => h9) rfl dX0_wipe_68 ?_
        refine lv_iload_n hx hb dX0_wipe_71 rfl (lv_at hl 0 rfl) ?_
        refine lv_iload_n hx hb dX0_wipe_72 rfl (lv_at hl 0 rfl) ?_
        refine lv_bipush (v := 10) hx hb dX0_wipe_73 (by decide) ?_
        refine lv_irem hx hb dX0_wipe_75 (mm_nz mm_k10 (by decide)) ?_
        refine lv_topi (fun v82 ev82 => ?_)
        have rv82 : mm_rg v82 0 9 := mm_rem ev82 q81 mm_k10 (by decide) (by decide)
        refine va_iast hx hb hK.1 hP hD hS 3 1 rfl rfl (mm_in q81 (by decide)) dX0_wipe_76 ?_
        clear hP hD hS
        clear H locs
        obtain ⟨g83, eg83⟩ : ∃ z : Nat → Int32, z = upd z58_3_77 x58_1_76.toNatClampNeg v82 := ⟨_, rfl⟩
        rw [← eg83]
        intro H locs (hP : va_P G vwCl [(a_0, .inr (0, [.int 0, .int 0, .int 0, .int 0, .int 0, .int 0, .int 0, .int 0, .ref a_1, .ref a_2, .ref a_3, .ref a_4, .ref a_5, .ref a_6, .ref a_7, .ref a_8, .ref a_9, .ref a_10])), (a_3, .inl (cy 1, 3, .inl n1)), (a_5, .inl (cy 1, 6, .inl n3)), (a_7, .inl (cy 1, 30, .inl g83))] H) (hD : va_D A [(a_0, .inr (0, [.int 0, .int 0, .int 0, .int 0, .int 0, .int 0, .int 0, .int 0, .ref a_1, .ref a_2, .ref a_3, .ref a_4, .ref a_5, .ref a_6, .ref a_7, .ref a_8, .ref a_9, .ref a_10])), (a_3, .inl (cy 1, 3, .inl n1)), (a_5, .inl (cy 1, 6, .inl n3)), (a_7, .inl (cy 1, 30, .inl g83))]) hS
        have rg83 : mm_ar g83 0 9 := by rw [eg83]; exact mm_ar_upd (mm_ar_wk rz58_3_77 (by decide)) (mm_wk rv82 (by decide)) _
        obtain ⟨v84, ev84⟩ : ∃ y : Int32, y = x58_1_76 + 1 := ⟨_, rfl⟩
        refine lv_iinc (v := v84) (lv' := [(1, .int v84), (0, .ref a_0)]) hx hb dX0_wipe_77 hl (k := 0) rfl (by rw [ev84]; rfl) (by decide) rfl ?_
        clear hl
        clear ls
        intro ls hl
        have rv84 : mm_rg v84 1 30 := mm_add ev84 q81 mm_k1 (by decide) (by decide)
        have tv84 := mm_addEc ev84 q81 mm_k1 (by decide) (k := 1) (by decide)
        refine lv_goto (tgt := 58) hx hb dX0_wipe_80 (by decide) ?_
        exact ih58 v84 g83 (mm_wk rv84 (by decide)) rg83 (mm_mu hm58 tv84 (by decide) (rv84).2 (by decide)) H locs hP hD hS ls (lv_sub hl [0, 1] rfl)
  exact L58_77 _ 0 f_2 (mm_wk mm_k0 (by decide)) h9 (Nat.lt_succ_self _) H locs hP hD hS ls (lv_sub hl [0, 1] rfl)

set_option maxHeartbeats 4000000 in
set_option maxRecDepth 100000 in
theorem K7_X7_partAt (l : Launch) (G : va_G) (cy : Nat → ClassId) (sz : Nat) (a_0 : Nat) (i_0 : Int32) (a_1 : Nat) (a_2 : Nat) (i_1 : Int32) (f_0 : Nat → Int32) (a_3 : Nat) (i_2 : Int32) (i_3 : Int32) (i_4 : Int32) (i_5 : Int32) (i_6 : Int32) (i_7 : Int32) (h0 : mm_rg i_1 0 600) (h1 : mm_ar f_0 (-128) 127)  : mm_CI l yX7_partAt (mm_ws yX7_partAt cX7_partAt 3 (some .int)) ({ frames := 0, cells := 0, slots := 0, locals := 0 } : Room) G cy sz [(a_1, .inr (9, [.ref a_2, .int i_1])), (a_2, .inl (cy 0, 600, .inl f_0)), (a_0, .inr (7, [.ref a_1, .ref a_3, .int i_2, .int i_3, .int i_4, .int i_5, .int i_6, .int i_7]))] [.ref a_0, .int i_0] (fun u : Unit => [(a_1, .inr (9, [.ref a_2, .int i_1])), (a_2, .inl (cy 0, 600, .inl f_0)), (a_0, .inr (7, [.ref a_1, .ref a_3, .int i_2, .int i_3, .int i_4, .int i_5, .int i_6, .int i_7]))]) (fun (r : Int32) (u : Unit) => mm_rg r 0 5) 0 0 := by
  refine mm_begin (lv := [(0, .ref a_0), (1, .int i_0)]) (by decide) (Nat.le_of_ble_eq_true rfl) rfl ?_
  intro p e s m below meth c A ls R args Q H locs hRe hQ hAe hx hb hr hlocks hml hown hnm hts hsz hA hS hP hK hD hZ hl
  have hRf : R.frames = 0 := by rw [hRe]
  have hRl : R.locals = 0 := by rw [hRe]
  have hRc : R.cells = 0 := by rw [hRe]
  have hRs : R.slots = 0 := by rw [hRe]
  refine lv_iload_n hx hb dX7_partAt_0 rfl (lv_at hl 1 rfl) ?_
  refine lv_if_lt (tgt := 15) hx hb dX7_partAt_1 (by decide) (fun c1 => ?_) (fun c1 => ?_)
  · have q2 := mm_ltL (h := (-1)) (mm_lt c1) (mm_top i_0) mm_k0 (by decide)
    refine lv_iconst (v := 0) hx hb dX7_partAt_15 (by decide) ?_
    subst hAe
    rw [hQ]
    exact W.iret (v := 0) hx hb hr (fun t ht hW => ⟨⟨0, (), rfl, (mm_wk mm_k0 (by decide)), by rw [ht]; exact hP, hK.warm hW, hD⟩, hS.F ht⟩) hS.2.2 dX7_partAt_16
  · have q3 := mm_leR (mm_nlt c1) mm_k0 (mm_top i_0)
    refine lv_iload_n hx hb dX7_partAt_4 rfl (lv_at hl 1 rfl) ?_
    refine lv_aload_n hx hb dX7_partAt_5 rfl (lv_at hl 0 rfl) ?_
    refine va_get (D := G) (ci := 7) (v := .ref a_1) (C := RX7) (T := TX7) (N := 8) hx hb hts (mm_i inlX7) hown hK.1 hP 2 rfl rfl 0 (by decide) (mm_h hts mm_w67) (fun _ h9 => h9) rfl dX7_partAt_6 ?_
    refine va_get (D := G) (ci := 9) (v := .int i_1) (C := RX9) (T := TX9) (N := 2) hx hb hts (mm_i inlX9) hown hK.1 hP 0 rfl rfl 1 (by decide) (mm_h hts mm_w231) (fun _ h9 => h9) rfl dX7_partAt_9 ?_
    refine lv_icmp_lt (tgt := 17) hx hb dX7_partAt_12 (by decide) (fun c4 => ?_) (fun c4 => ?_)
    · have q5 := mm_ltL (h := 599) (mm_lt c4) q3 h0 (by decide)
      have q6 := mm_ltR (lo := 1) (mm_lt c4) q3 h0 (by decide)
      refine lv_aload_n hx hb dX7_partAt_17 rfl (lv_at hl 0 rfl) ?_
      refine va_get (D := G) (ci := 7) (v := .ref a_1) (C := RX7) (T := TX7) (N := 8) hx hb hts (mm_i inlX7) hown hK.1 hP 2 rfl rfl 0 (by decide) (mm_h hts mm_w67) (fun _ h9 => h9) rfl dX7_partAt_18 ?_
      refine va_get (D := G) (ci := 9) (v := .ref a_2) (C := RX9) (T := TX9) (N := 2) hx hb hts (mm_i inlX9) hown hK.1 hP 0 rfl rfl 0 (by decide) (mm_h hts mm_w238) (fun _ h9 => h9) rfl dX7_partAt_21 ?_
      refine lv_iload_n hx hb dX7_partAt_24 rfl (lv_at hl 1 rfl) ?_
      refine va_bald hx hb hK.1 hP 1 0 rfl rfl (mm_in q5 (by decide)) dX7_partAt_25 ?_
      refine lv_topi (fun v7 ev7 => ?_)
      have rv7 : mm_rg v7 (-128) 127 := mm_eqv ev7 (h1 _)
      refine lv_istore_n (lv' := [(2, .int v7), (0, .ref a_0), (1, .int i_0)]) hx hb dX7_partAt_26 rfl hl (by decide) rfl ?_
      clear hl
      clear ls
      intro ls hl
      refine lv_iload_n hx hb dX7_partAt_27 rfl (lv_at hl 0 rfl) ?_
      refine lv_bipush (v := 32) hx hb dX7_partAt_28 (by decide) ?_
      refine lv_icmp_eq (tgt := 39) hx hb dX7_partAt_30 (by decide) (fun c8 => ?_) (fun c8 => ?_)
      · have q9 := mm_eqI (lo := 32) (hi := 32) c8 rv7 mm_k32 (by decide)
        refine lv_iconst (v := 1) hx hb dX7_partAt_39 (by decide) ?_
        subst hAe
        rw [hQ]
        exact W.iret (v := 1) hx hb hr (fun t ht hW => ⟨⟨1, (), rfl, (mm_wk mm_k1 (by decide)), by rw [ht]; exact hP, hK.warm hW, hD⟩, hS.F ht⟩) hS.2.2 dX7_partAt_40
      · refine lv_iload_n hx hb dX7_partAt_33 rfl (lv_at hl 0 rfl) ?_
        refine lv_bipush (v := 10) hx hb dX7_partAt_34 (by decide) ?_
        refine lv_icmp_ne (tgt := 41) hx hb dX7_partAt_36 (by decide) (fun c10 => ?_) (fun c10 => ?_)
        · refine lv_iload_n hx hb dX7_partAt_41 rfl (lv_at hl 0 rfl) ?_
          refine lv_bipush (v := 97) hx hb dX7_partAt_42 (by decide) ?_
          refine lv_icmp_lt (tgt := 55) hx hb dX7_partAt_44 (by decide) (fun c11 => ?_) (fun c11 => ?_)
          · have q12 := mm_ltL (h := 96) (mm_lt c11) rv7 mm_k97 (by decide)
            refine lv_iload_n hx hb dX7_partAt_55 rfl (lv_at hl 0 rfl) ?_
            refine lv_bipush (v := 48) hx hb dX7_partAt_56 (by decide) ?_
            refine lv_icmp_lt (tgt := 69) hx hb dX7_partAt_58 (by decide) (fun c13 => ?_) (fun c13 => ?_)
            · have q14 := mm_ltL (h := 47) (mm_lt c13) q12 mm_k48 (by decide)
              refine lv_iload_n hx hb dX7_partAt_69 rfl (lv_at hl 0 rfl) ?_
              refine lv_bipush (v := 59) hx hb dX7_partAt_70 (by decide) ?_
              refine lv_icmp_ne (tgt := 79) hx hb dX7_partAt_72 (by decide) (fun c15 => ?_) (fun c15 => ?_)
              · refine lv_iconst (v := 5) hx hb dX7_partAt_79 (by decide) ?_
                subst hAe
                rw [hQ]
                exact W.iret (v := 5) hx hb hr (fun t ht hW => ⟨⟨5, (), rfl, (mm_wk mm_k5 (by decide)), by rw [ht]; exact hP, hK.warm hW, hD⟩, hS.F ht⟩) hS.2.2 dX7_partAt_80
              · exact mm_eqN c15 q14 mm_k59 (by decide)
            · have q16 := mm_leR (mm_nlt c13) mm_k48 q12
              refine lv_iload_n hx hb dX7_partAt_61 rfl (lv_at hl 0 rfl) ?_
              refine lv_bipush (v := 57) hx hb dX7_partAt_62 (by decide) ?_
              refine lv_icmp_gt (tgt := 69) hx hb dX7_partAt_64 (by decide) (fun c17 => ?_) (fun c17 => ?_)
              · have q18 := mm_ltR (lo := 58) (mm_lt c17) mm_k57 q16 (by decide)
                refine lv_iload_n hx hb dX7_partAt_69 rfl (lv_at hl 0 rfl) ?_
                refine lv_bipush (v := 59) hx hb dX7_partAt_70 (by decide) ?_
                refine lv_icmp_ne (tgt := 79) hx hb dX7_partAt_72 (by decide) (fun c19 => ?_) (fun c19 => ?_)
                · refine lv_iconst (v := 5) hx hb dX7_partAt_79 (by decide) ?_
                  subst hAe
                  rw [hQ]
                  exact W.iret (v := 5) hx hb hr (fun t ht hW => ⟨⟨5, (), rfl, (mm_wk mm_k5 (by decide)), by rw [ht]; exact hP, hK.warm hW, hD⟩, hS.F ht⟩) hS.2.2 dX7_partAt_80
                · have q20 := mm_eqI (lo := 59) (hi := 59) c19 q18 mm_k59 (by decide)
                  refine lv_iconst (v := 4) hx hb dX7_partAt_75 (by decide) ?_
                  refine lv_goto (tgt := 80) hx hb dX7_partAt_76 (by decide) ?_
                  subst hAe
                  rw [hQ]
                  exact W.iret (v := 4) hx hb hr (fun t ht hW => ⟨⟨4, (), rfl, (mm_wk mm_k4 (by decide)), by rw [ht]; exact hP, hK.warm hW, hD⟩, hS.F ht⟩) hS.2.2 dX7_partAt_80
              · have q21 := mm_leL (mm_nlt c17) q16 mm_k57
                refine lv_iconst (v := 3) hx hb dX7_partAt_67 (by decide) ?_
                subst hAe
                rw [hQ]
                exact W.iret (v := 3) hx hb hr (fun t ht hW => ⟨⟨3, (), rfl, (mm_wk mm_k3 (by decide)), by rw [ht]; exact hP, hK.warm hW, hD⟩, hS.F ht⟩) hS.2.2 dX7_partAt_68
          · have q22 := mm_leR (mm_nlt c11) mm_k97 rv7
            refine lv_iload_n hx hb dX7_partAt_47 rfl (lv_at hl 0 rfl) ?_
            refine lv_bipush (v := 122) hx hb dX7_partAt_48 (by decide) ?_
            refine lv_icmp_gt (tgt := 55) hx hb dX7_partAt_50 (by decide) (fun c23 => ?_) (fun c23 => ?_)
            · have q24 := mm_ltR (lo := 123) (mm_lt c23) mm_k122 q22 (by decide)
              refine lv_iload_n hx hb dX7_partAt_55 rfl (lv_at hl 0 rfl) ?_
              refine lv_bipush (v := 48) hx hb dX7_partAt_56 (by decide) ?_
              refine lv_icmp_lt (tgt := 69) hx hb dX7_partAt_58 (by decide) (fun c25 => ?_) (fun c25 => ?_)
              · have q26 := mm_ltL (h := 47) (mm_lt c25) q24 mm_k48 (by decide)
                exact mm_no q26 (by decide)
              · refine lv_iload_n hx hb dX7_partAt_61 rfl (lv_at hl 0 rfl) ?_
                refine lv_bipush (v := 57) hx hb dX7_partAt_62 (by decide) ?_
                refine lv_icmp_gt (tgt := 69) hx hb dX7_partAt_64 (by decide) (fun c27 => ?_) (fun c27 => ?_)
                · refine lv_iload_n hx hb dX7_partAt_69 rfl (lv_at hl 0 rfl) ?_
                  refine lv_bipush (v := 59) hx hb dX7_partAt_70 (by decide) ?_
                  refine lv_icmp_ne (tgt := 79) hx hb dX7_partAt_72 (by decide) (fun c28 => ?_) (fun c28 => ?_)
                  · refine lv_iconst (v := 5) hx hb dX7_partAt_79 (by decide) ?_
                    subst hAe
                    rw [hQ]
                    exact W.iret (v := 5) hx hb hr (fun t ht hW => ⟨⟨5, (), rfl, (mm_wk mm_k5 (by decide)), by rw [ht]; exact hP, hK.warm hW, hD⟩, hS.F ht⟩) hS.2.2 dX7_partAt_80
                  · exact mm_eqN c28.symm mm_k59 q24 (by decide)
                · have q29 := mm_leL (mm_nlt c27) q24 mm_k57
                  exact mm_no q29 (by decide)
            · have q30 := mm_leL (mm_nlt c23) q22 mm_k122
              refine lv_iconst (v := 2) hx hb dX7_partAt_53 (by decide) ?_
              subst hAe
              rw [hQ]
              exact W.iret (v := 2) hx hb hr (fun t ht hW => ⟨⟨2, (), rfl, (mm_wk mm_k2 (by decide)), by rw [ht]; exact hP, hK.warm hW, hD⟩, hS.F ht⟩) hS.2.2 dX7_partAt_54
        · have q31 := mm_eqI (lo := 10) (hi := 10) c10 rv7 mm_k10 (by decide)
          refine lv_iconst (v := 1) hx hb dX7_partAt_39 (by decide) ?_
          subst hAe
          rw [hQ]
          exact W.iret (v := 1) hx hb hr (fun t ht hW => ⟨⟨1, (), rfl, (mm_wk mm_k1 (by decide)), by rw [ht]; exact hP, hK.warm hW, hD⟩, hS.F ht⟩) hS.2.2 dX7_partAt_40
    · refine lv_iconst (v := 0) hx hb dX7_partAt_15 (by decide) ?_
      subst hAe
      rw [hQ]
      exact W.iret (v := 0) hx hb hr (fun t ht hW => ⟨⟨0, (), rfl, (mm_wk mm_k0 (by decide)), by rw [ht]; exact hP, hK.warm hW, hD⟩, hS.F ht⟩) hS.2.2 dX7_partAt_16

set_option maxHeartbeats 4000000 in
set_option maxRecDepth 100000 in
theorem K8_X7_numberTold (l : Launch) (G : va_G) (cy : Nat → ClassId) (sz : Nat) (a_0 : Nat) (a_1 : Nat) (a_2 : Nat) (i_0 : Int32) (f_0 : Nat → Int32) (a_3 : Nat) (i_1 : Int32) (i_2 : Int32) (i_3 : Int32) (i_4 : Int32) (i_5 : Int32) (i_6 : Int32) (h0 : mm_ar f_0 (-128) 127) (h1 : mm_rg i_4 0 600) (h2 : mm_rg i_5 0 600)  : mm_CI l yX7_numberTold (mm_ws yX7_numberTold cX7_numberTold 3 (some .int)) ({ frames := 0, cells := 0, slots := 0, locals := 0 } : Room) G cy sz [(a_1, .inr (9, [.ref a_2, .int i_0])), (a_2, .inl (cy 0, 600, .inl f_0)), (a_0, .inr (7, [.ref a_1, .ref a_3, .int i_1, .int i_2, .int i_3, .int i_4, .int i_5, .int i_6]))] [.ref a_0] (fun u : Unit => [(a_1, .inr (9, [.ref a_2, .int i_0])), (a_2, .inl (cy 0, 600, .inl f_0)), (a_0, .inr (7, [.ref a_1, .ref a_3, .int i_1, .int i_2, .int i_3, .int i_4, .int i_5, .int i_6]))]) (fun (r : Int32) (u : Unit) => True) 0 0 := by
  refine mm_begin (lv := [(0, .ref a_0)]) (by decide) (Nat.le_of_ble_eq_true rfl) rfl ?_
  intro p e s m below meth c A ls R args Q H locs hRe hQ hAe hx hb hr hlocks hml hown hnm hts hsz hA hS hP hK hD hZ hl
  have hRf : R.frames = 0 := by rw [hRe]
  have hRl : R.locals = 0 := by rw [hRe]
  have hRc : R.cells = 0 := by rw [hRe]
  have hRs : R.slots = 0 := by rw [hRe]
  refine lv_iconst (v := 0) hx hb dX7_numberTold_0 (by decide) ?_
  refine lv_istore_n (lv' := [(1, .int 0), (0, .ref a_0)]) hx hb dX7_numberTold_1 rfl hl (by decide) rfl ?_
  clear hl
  clear ls
  intro ls hl
  refine lv_aload_n hx hb dX7_numberTold_2 rfl (lv_at hl 1 rfl) ?_
  refine va_get (D := G) (ci := 7) (v := .int i_4) (C := RX7) (T := TX7) (N := 8) hx hb hts (mm_i inlX7) hown hK.1 hP 2 rfl rfl 5 (by decide) (mm_h hts mm_w232) (fun _ h9 => h9) rfl dX7_numberTold_3 ?_
  refine lv_istore_n (lv' := [(2, .int i_4), (1, .int 0), (0, .ref a_0)]) hx hb dX7_numberTold_6 rfl hl (by decide) rfl ?_
  clear hl
  clear ls
  intro ls hl
  have L7_43 : ∀ (n : Nat) (x7_2_42 : Int32) (x7_1_43 : Int32), mm_rg x7_2_42 0 600 → (600 - x7_2_42.toInt).toNat < n → ∀ (H : Heap) (locs : List Loc), va_P G vwCl [(a_1, .inr (9, [.ref a_2, .int i_0])), (a_2, .inl (cy 0, 600, .inl f_0)), (a_0, .inr (7, [.ref a_1, .ref a_3, .int i_1, .int i_2, .int i_3, .int i_4, .int i_5, .int i_6]))] H → va_D A [(a_1, .inr (9, [.ref a_2, .int i_0])), (a_2, .inl (cy 0, 600, .inl f_0)), (a_0, .inr (7, [.ref a_1, .ref a_3, .int i_1, .int i_2, .int i_3, .int i_4, .int i_5, .int i_6]))] → va_S A s.heap H locs → ∀ (ls : Array Slot), lv_has ls 3 [(2, .int x7_2_42), (1, .int x7_1_43), (0, .ref a_0)] → W p l e R s m args below meth c H locs 0 0 Q (F0 m 7 ls []) := by
    intro n
    induction n with
    | zero => intro x7_2_42 x7_1_43 rx7_2_42 hm; exact absurd hm (Nat.not_lt_zero _)
    | succ n ih7 =>
      intro x7_2_42 x7_1_43 rx7_2_42 hm7 H locs hP hD hS ls hl
      refine lv_iload_n hx hb dX7_numberTold_7 rfl (lv_at hl 0 rfl) ?_
      refine lv_aload_n hx hb dX7_numberTold_8 rfl (lv_at hl 2 rfl) ?_
      refine va_get (D := G) (ci := 7) (v := .int i_5) (C := RX7) (T := TX7) (N := 8) hx hb hts (mm_i inlX7) hown hK.1 hP 2 rfl rfl 6 (by decide) (mm_h hts mm_w206) (fun _ h9 => h9) rfl dX7_numberTold_9 ?_
      refine lv_icmp_ge (tgt := 45) hx hb dX7_numberTold_12 (by decide) (fun c45 => ?_) (fun c45 => ?_)
      · refine lv_iload_n hx hb dX7_numberTold_45 rfl (lv_at hl 1 rfl) ?_
        subst hAe
        rw [hQ]
        exact W.iret (v := x7_1_43) hx hb hr (fun t ht hW => ⟨⟨x7_1_43, (), rfl, trivial, by rw [ht]; exact hP, hK.warm hW, hD⟩, hS.F ht⟩) hS.2.2 dX7_numberTold_46
      · have q46 := mm_ltL (h := 599) (mm_nle c45) rx7_2_42 h2 (by decide)
        have q47 := mm_ltR (lo := 1) (mm_nle c45) rx7_2_42 h2 (by decide)
        refine lv_iload_n hx hb dX7_numberTold_15 rfl (lv_at hl 1 rfl) ?_
        refine lv_ldc (v := 1000000) hx hb hown (mm_h hts mm_w243) dX7_numberTold_16 ?_
        refine lv_icmp_ge (tgt := 45) hx hb dX7_numberTold_18 (by decide) (fun c48 => ?_) (fun c48 => ?_)
        · have q49 := mm_leR (mm_le c48) mm_k1000000 (mm_top x7_1_43)
          refine lv_iload_n hx hb dX7_numberTold_45 rfl (lv_at hl 1 rfl) ?_
          subst hAe
          rw [hQ]
          exact W.iret (v := x7_1_43) hx hb hr (fun t ht hW => ⟨⟨x7_1_43, (), rfl, trivial, by rw [ht]; exact hP, hK.warm hW, hD⟩, hS.F ht⟩) hS.2.2 dX7_numberTold_46
        · have q50 := mm_ltL (h := 999999) (mm_nle c48) (mm_top x7_1_43) mm_k1000000 (by decide)
          refine lv_bipush (v := 10) hx hb dX7_numberTold_21 (by decide) ?_
          refine lv_iload_n hx hb dX7_numberTold_23 rfl (lv_at hl 1 rfl) ?_
          refine lv_imul hx hb dX7_numberTold_24 ?_
          refine lv_topi (fun v51 ev51 => ?_)
          refine lv_aload_n hx hb dX7_numberTold_25 rfl (lv_at hl 2 rfl) ?_
          refine va_get (D := G) (ci := 7) (v := .ref a_1) (C := RX7) (T := TX7) (N := 8) hx hb hts (mm_i inlX7) hown hK.1 hP 2 rfl rfl 0 (by decide) (mm_h hts mm_w67) (fun _ h9 => h9) rfl dX7_numberTold_26 ?_
          refine va_get (D := G) (ci := 9) (v := .ref a_2) (C := RX9) (T := TX9) (N := 2) hx hb hts (mm_i inlX9) hown hK.1 hP 0 rfl rfl 0 (by decide) (mm_h hts mm_w238) (fun _ h9 => h9) rfl dX7_numberTold_29 ?_
          refine lv_iload_n hx hb dX7_numberTold_32 rfl (lv_at hl 0 rfl) ?_
          refine va_bald hx hb hK.1 hP 1 0 rfl rfl (mm_in q46 (by decide)) dX7_numberTold_33 ?_
          refine lv_topi (fun v52 ev52 => ?_)
          have rv52 : mm_rg v52 (-128) 127 := mm_eqv ev52 (h0 _)
          refine lv_iadd hx hb dX7_numberTold_34 ?_
          refine lv_topi (fun v53 ev53 => ?_)
          refine lv_bipush (v := 48) hx hb dX7_numberTold_35 (by decide) ?_
          refine lv_isub hx hb dX7_numberTold_37 ?_
          refine lv_topi (fun v54 ev54 => ?_)
          refine lv_istore_n (lv' := [(1, .int v54), (2, .int x7_2_42), (0, .ref a_0)]) hx hb dX7_numberTold_38 rfl hl (by decide) rfl ?_
          clear hl
          clear ls
          intro ls hl
          obtain ⟨v55, ev55⟩ : ∃ y : Int32, y = x7_2_42 + 1 := ⟨_, rfl⟩
          refine lv_iinc (v := v55) (lv' := [(2, .int v55), (1, .int v54), (0, .ref a_0)]) hx hb dX7_numberTold_39 hl (k := 1) rfl (by rw [ev55]; rfl) (by decide) rfl ?_
          clear hl
          clear ls
          intro ls hl
          have rv55 : mm_rg v55 1 600 := mm_add ev55 q46 mm_k1 (by decide) (by decide)
          have tv55 := mm_addEc ev55 q46 mm_k1 (by decide) (k := 1) (by decide)
          refine lv_goto (tgt := 7) hx hb dX7_numberTold_42 (by decide) ?_
          exact ih7 v55 v54 (mm_wk rv55 (by decide)) (mm_mu hm7 tv55 (by decide) (rv55).2 (by decide)) H locs hP hD hS ls (lv_sub hl [0, 1, 2] rfl)
  exact L7_43 _ i_4 0 h1 (Nat.lt_succ_self _) H locs hP hD hS ls (lv_sub hl [0, 1, 2] rfl)

set_option maxHeartbeats 4000000 in
set_option maxRecDepth 100000 in
theorem K9_X7_nextToken (l : Launch) (G : va_G) (cy : Nat → ClassId) (sz : Nat) (a_0 : Nat) (a_1 : Nat) (a_2 : Nat) (i_0 : Int32) (f_0 : Nat → Int32) (a_3 : Nat) (i_1 : Int32) (i_2 : Int32) (i_3 : Int32) (i_4 : Int32) (i_5 : Int32) (i_6 : Int32) (h0 : mm_rg i_0 0 600) (h1 : mm_ar f_0 (-128) 127) (h2 : mm_rg i_3 0 5) (h3 : mm_rg i_4 0 600) (h4 : mm_rg i_5 0 600)  : mm_CV l yX7_nextToken (mm_ws yX7_nextToken cX7_nextToken 4 (none)) ({ frames := 1, cells := 0, slots := 0, locals := 22 } : Room) G cy sz [(a_1, .inr (9, [.ref a_2, .int i_0])), (a_2, .inl (cy 0, 600, .inl f_0)), (a_0, .inr (7, [.ref a_1, .ref a_3, .int i_1, .int i_2, .int i_3, .int i_4, .int i_5, .int i_6]))] [.ref a_0] (fun u : Int32 × Int32 × Int32 × Int32 => [(a_1, .inr (9, [.ref a_2, .int i_0])), (a_2, .inl (cy 0, 600, .inl f_0)), (a_0, .inr (7, [.ref a_1, .ref a_3, .int i_1, .int i_2, .int u.1, .int u.2.1, .int u.2.2.1, .int u.2.2.2]))]) (fun u : Int32 × Int32 × Int32 × Int32 => mm_rg u.1 0 5 ∧ mm_rg u.2.1 0 600 ∧ mm_rg u.2.2.1 0 600) 0 0 := by
  refine mm_begin (lv := [(0, .ref a_0)]) (by decide) (Nat.le_of_ble_eq_true rfl) rfl ?_
  intro p e s m below meth c A ls R args Q H locs hRe hQ hAe hx hb hr hlocks hml hown hnm hts hsz hA hS hP hK hD hZ hl
  have hRf : R.frames = 1 := by rw [hRe]
  have hRl : R.locals = 22 := by rw [hRe]
  have hRc : R.cells = 0 := by rw [hRe]
  have hRs : R.slots = 0 := by rw [hRe]
  refine lv_aload_n hx hb dX7_nextToken_0 rfl (lv_at hl 0 rfl) ?_
  refine va_get (D := G) (ci := 7) (v := .int i_5) (C := RX7) (T := TX7) (N := 8) hx hb hts (mm_i inlX7) hown hK.1 hP 2 rfl rfl 6 (by decide) (mm_h hts mm_w206) (fun _ h9 => h9) rfl dX7_nextToken_1 ?_
  refine lv_istore_n (lv' := [(1, .int i_5), (0, .ref a_0)]) hx hb dX7_nextToken_4 rfl hl (by decide) rfl ?_
  clear hl
  clear ls
  intro ls hl
  have L5_14695 : ∀ (n : Nat) (x5_1_14695 : Int32), mm_rg x5_1_14695 0 600 → (600 - x5_1_14695.toInt).toNat < n → ∀ (H : Heap) (locs : List Loc), va_P G vwCl [(a_1, .inr (9, [.ref a_2, .int i_0])), (a_2, .inl (cy 0, 600, .inl f_0)), (a_0, .inr (7, [.ref a_1, .ref a_3, .int i_1, .int i_2, .int i_3, .int i_4, .int i_5, .int i_6]))] H → va_D A [(a_1, .inr (9, [.ref a_2, .int i_0])), (a_2, .inl (cy 0, 600, .inl f_0)), (a_0, .inr (7, [.ref a_1, .ref a_3, .int i_1, .int i_2, .int i_3, .int i_4, .int i_5, .int i_6]))] → va_S A s.heap H locs → ∀ (ls : Array Slot), lv_has ls 4 [(1, .int x5_1_14695), (0, .ref a_0)] → W p l e R s m args below meth c H locs 0 0 Q (F0 m 5 ls []) := by
    intro n
    induction n with
    | zero => intro x5_1_14695 rx5_1_14695 hm; exact absurd hm (Nat.not_lt_zero _)
    | succ n ih5 =>
      intro x5_1_14695 rx5_1_14695 hm5 H locs hP hD hS ls hl
      refine lv_iload_n hx hb dX7_nextToken_5 rfl (lv_at hl 0 rfl) ?_
      refine lv_aload_n hx hb dX7_nextToken_6 rfl (lv_at hl 1 rfl) ?_
      refine va_get (D := G) (ci := 7) (v := .ref a_1) (C := RX7) (T := TX7) (N := 8) hx hb hts (mm_i inlX7) hown hK.1 hP 2 rfl rfl 0 (by decide) (mm_h hts mm_w67) (fun _ h9 => h9) rfl dX7_nextToken_7 ?_
      refine va_get (D := G) (ci := 9) (v := .int i_0) (C := RX9) (T := TX9) (N := 2) hx hb hts (mm_i inlX9) hown hK.1 hP 0 rfl rfl 1 (by decide) (mm_h hts mm_w231) (fun _ h9 => h9) rfl dX7_nextToken_10 ?_
      refine lv_icmp_ge (tgt := 31) hx hb dX7_nextToken_13 (by decide) (fun c14697 => ?_) (fun c14697 => ?_)
      · refine lv_aload_n hx hb dX7_nextToken_31 rfl (lv_at hl 1 rfl) ?_
        refine lv_aload_n hx hb dX7_nextToken_32 rfl (lv_at hl 1 rfl) ?_
        refine lv_iload_n hx hb dX7_nextToken_33 rfl (lv_at hl 0 rfl) ?_
        refine mm_finir (va_runV (As := [.int x5_1_14695]) (rest := [.ref a_0]) ⟨hx, hb, hml, hown, hts⟩ (K7_X7_partAt l G cy H.size a_0 x5_1_14695 a_1 a_2 i_0 f_0 a_3 i_1 i_2 i_3 i_4 i_5 i_6 h0 h1) (cwV 1 hts (mm_gV mm_w234 mm_w235 mm_w236 mm_w19 mm_w237) rfl rfl rfl hd_X7_partAt ⟨by rw [hRf]; exact Nat.le_of_ble_eq_true rfl, by rw [hRl]; exact Nat.le_of_ble_eq_true rfl⟩) (mm_preV hK hZ hS hA hP hD [0, 1, 2] rfl rfl 2 rfl rfl rfl) rfl rfl hl.1 rfl (lv_room (Nat.le_of_ble_eq_true rfl)) dX7_nextToken_34 ⟨by rw [hRc]; exact Nat.le_of_ble_eq_true rfl, by rw [hRs]; exact Nat.le_of_ble_eq_true rfl⟩) hP hD hS hA [0, 1, 2] rfl (fun _ => rfl) ?_
        clear hP hD hS
        clear H locs
        intro v14698 _u H locs hw hP hD hS
        have w14699 := hw
        refine va_put (D := G) (ci := 7) (v := .int v14698) (ty := tyX7 4) (C := RX7) (T := TX7) (N := 8) hx hb hts (mm_i inlX7) tyX7 tyX7_ok nmX7 hown hK.1 hP hD hS 2 rfl rfl 4 (by decide) (mm_h hts mm_w207) (fun _ h9 => h9) rfl (tyX7_ok 4 (by decide)) rfl rfl (Nat.le_of_ble_eq_true rfl) dX7_nextToken_37 ?_
        clear hP hD hS
        clear H locs
        intro H locs (hP : va_P G vwCl [(a_1, .inr (9, [.ref a_2, .int i_0])), (a_2, .inl (cy 0, 600, .inl f_0)), (a_0, .inr (7, [.ref a_1, .ref a_3, .int i_1, .int i_2, .int v14698, .int i_4, .int i_5, .int i_6]))] H) (hD : va_D A [(a_1, .inr (9, [.ref a_2, .int i_0])), (a_2, .inl (cy 0, 600, .inl f_0)), (a_0, .inr (7, [.ref a_1, .ref a_3, .int i_1, .int i_2, .int v14698, .int i_4, .int i_5, .int i_6]))]) hS
        refine lv_iload_n hx hb dX7_nextToken_40 rfl (lv_at hl 0 rfl) ?_
        refine lv_aload_n hx hb dX7_nextToken_41 rfl (lv_at hl 1 rfl) ?_
        refine va_get (D := G) (ci := 7) (v := .ref a_1) (C := RX7) (T := TX7) (N := 8) hx hb hts (mm_i inlX7) hown hK.1 hP 2 rfl rfl 0 (by decide) (mm_h hts mm_w67) (fun _ h9 => h9) rfl dX7_nextToken_42 ?_
        refine va_get (D := G) (ci := 9) (v := .int i_0) (C := RX9) (T := TX9) (N := 2) hx hb hts (mm_i inlX9) hown hK.1 hP 0 rfl rfl 1 (by decide) (mm_h hts mm_w231) (fun _ h9 => h9) rfl dX7_nextToken_45 ?_
        refine lv_icmp_ge (tgt := 57) hx hb dX7_nextToken_48 (by decide) (fun c14700 => ?_) (fun c14700 => ?_)
        · refine lv_iload_n hx hb dX7_nextToken_57 rfl (lv_at hl 0 rfl) ?_
          refine lv_istore_n (lv' := [(2, .int x5_1_14695), (1, .int x5_1_14695), (0, .ref a_0)]) hx hb dX7_nextToken_58 rfl hl (by decide) rfl ?_
          clear hl
          clear ls
          intro ls hl
          refine lv_aload_n hx hb dX7_nextToken_59 rfl (lv_at hl 2 rfl) ?_
          refine va_get (D := G) (ci := 7) (v := .int v14698) (C := RX7) (T := TX7) (N := 8) hx hb hts (mm_i inlX7) hown hK.1 hP 2 rfl rfl 4 (by decide) (mm_h hts mm_w207) (fun _ h9 => h9) rfl dX7_nextToken_60 ?_
          refine lv_iconst (v := 2) hx hb dX7_nextToken_63 (by decide) ?_
          refine lv_icmp_eq (tgt := 75) hx hb dX7_nextToken_64 (by decide) (fun c14701 => ?_) (fun c14701 => ?_)
          · have q14702 := mm_eqI (lo := 2) (hi := 2) c14701 w14699 mm_k2 (by decide)
            refine lv_iconst (v := 1) hx hb dX7_nextToken_75 (by decide) ?_
            refine lv_goto (tgt := 80) hx hb dX7_nextToken_76 (by decide) ?_
            refine lv_istore_n (lv' := [(3, .int 1), (2, .int x5_1_14695), (1, .int x5_1_14695), (0, .ref a_0)]) hx hb dX7_nextToken_80 rfl hl (by decide) rfl ?_
            clear hl
            clear ls
            intro ls hl
            refine lv_iload_n hx hb dX7_nextToken_81 rfl (lv_at hl 0 rfl) ?_
            refine lv_if_eq (tgt := 114) hx hb dX7_nextToken_82 (by decide) (fun c15907 => ?_) (fun c15907 => ?_)
            · exact mm_eqN c15907.symm mm_k0 mm_k1 (by decide)
            · refine lv_iload_n hx hb dX7_nextToken_85 rfl (lv_at hl 1 rfl) ?_
              refine lv_aload_n hx hb dX7_nextToken_86 rfl (lv_at hl 3 rfl) ?_
              refine va_get (D := G) (ci := 7) (v := .ref a_1) (C := RX7) (T := TX7) (N := 8) hx hb hts (mm_i inlX7) hown hK.1 hP 2 rfl rfl 0 (by decide) (mm_h hts mm_w67) (fun _ h9 => h9) rfl dX7_nextToken_87 ?_
              refine va_get (D := G) (ci := 9) (v := .int i_0) (C := RX9) (T := TX9) (N := 2) hx hb hts (mm_i inlX9) hown hK.1 hP 0 rfl rfl 1 (by decide) (mm_h hts mm_w231) (fun _ h9 => h9) rfl dX7_nextToken_90 ?_
              refine lv_icmp_ge (tgt := 114) hx hb dX7_nextToken_93 (by decide) (fun c15908 => ?_) (fun c15908 => ?_)
              · refine lv_aload_n hx hb dX7_nextToken_114 rfl (lv_at hl 3 rfl) ?_
                refine lv_iload_n hx hb dX7_nextToken_115 rfl (lv_at hl 2 rfl) ?_
                refine va_put (D := G) (ci := 7) (v := .int x5_1_14695) (ty := tyX7 5) (C := RX7) (T := TX7) (N := 8) hx hb hts (mm_i inlX7) tyX7 tyX7_ok nmX7 hown hK.1 hP hD hS 2 rfl rfl 5 (by decide) (mm_h hts mm_w232) (fun _ h9 => h9) rfl (tyX7_ok 5 (by decide)) rfl rfl (Nat.le_of_ble_eq_true rfl) dX7_nextToken_116 ?_
                clear hP hD hS
                clear H locs
                intro H locs (hP : va_P G vwCl [(a_1, .inr (9, [.ref a_2, .int i_0])), (a_2, .inl (cy 0, 600, .inl f_0)), (a_0, .inr (7, [.ref a_1, .ref a_3, .int i_1, .int i_2, .int v14698, .int x5_1_14695, .int i_5, .int i_6]))] H) (hD : va_D A [(a_1, .inr (9, [.ref a_2, .int i_0])), (a_2, .inl (cy 0, 600, .inl f_0)), (a_0, .inr (7, [.ref a_1, .ref a_3, .int i_1, .int i_2, .int v14698, .int x5_1_14695, .int i_5, .int i_6]))]) hS
                refine lv_aload_n hx hb dX7_nextToken_119 rfl (lv_at hl 3 rfl) ?_
                refine lv_iload_n hx hb dX7_nextToken_120 rfl (lv_at hl 1 rfl) ?_
                refine va_put (D := G) (ci := 7) (v := .int x5_1_14695) (ty := tyX7 6) (C := RX7) (T := TX7) (N := 8) hx hb hts (mm_i inlX7) tyX7 tyX7_ok nmX7 hown hK.1 hP hD hS 2 rfl rfl 6 (by decide) (mm_h hts mm_w206) (fun _ h9 => h9) rfl (tyX7_ok 6 (by decide)) rfl rfl (Nat.le_of_ble_eq_true rfl) dX7_nextToken_121 ?_
                clear hP hD hS
                clear H locs
                intro H locs (hP : va_P G vwCl [(a_1, .inr (9, [.ref a_2, .int i_0])), (a_2, .inl (cy 0, 600, .inl f_0)), (a_0, .inr (7, [.ref a_1, .ref a_3, .int i_1, .int i_2, .int v14698, .int x5_1_14695, .int x5_1_14695, .int i_6]))] H) (hD : va_D A [(a_1, .inr (9, [.ref a_2, .int i_0])), (a_2, .inl (cy 0, 600, .inl f_0)), (a_0, .inr (7, [.ref a_1, .ref a_3, .int i_1, .int i_2, .int v14698, .int x5_1_14695, .int x5_1_14695, .int i_6]))]) hS
                refine lv_aload_n hx hb dX7_nextToken_124 rfl (lv_at hl 3 rfl) ?_
                refine lv_aload_n hx hb dX7_nextToken_125 rfl (lv_at hl 3 rfl) ?_
                refine va_get (D := G) (ci := 7) (v := .int v14698) (C := RX7) (T := TX7) (N := 8) hx hb hts (mm_i inlX7) hown hK.1 hP 2 rfl rfl 4 (by decide) (mm_h hts mm_w207) (fun _ h9 => h9) rfl dX7_nextToken_126 ?_
                refine lv_iconst (v := 3) hx hb dX7_nextToken_129 (by decide) ?_
                refine lv_icmp_ne (tgt := 140) hx hb dX7_nextToken_130 (by decide) (fun c15909 => ?_) (fun c15909 => ?_)
                · refine lv_iconst (v := 0) hx hb dX7_nextToken_140 (by decide) ?_
                  refine va_put (D := G) (ci := 7) (v := .int 0) (ty := tyX7 7) (C := RX7) (T := TX7) (N := 8) hx hb hts (mm_i inlX7) tyX7 tyX7_ok nmX7 hown hK.1 hP hD hS 2 rfl rfl 7 (by decide) (mm_h hts mm_w233) (fun _ h9 => h9) rfl (tyX7_ok 7 (by decide)) rfl rfl (Nat.le_of_ble_eq_true rfl) dX7_nextToken_141 ?_
                  clear hP hD hS
                  clear H locs
                  intro H locs (hP : va_P G vwCl [(a_1, .inr (9, [.ref a_2, .int i_0])), (a_2, .inl (cy 0, 600, .inl f_0)), (a_0, .inr (7, [.ref a_1, .ref a_3, .int i_1, .int i_2, .int v14698, .int x5_1_14695, .int x5_1_14695, .int 0]))] H) (hD : va_D A [(a_1, .inr (9, [.ref a_2, .int i_0])), (a_2, .inl (cy 0, 600, .inl f_0)), (a_0, .inr (7, [.ref a_1, .ref a_3, .int i_1, .int i_2, .int v14698, .int x5_1_14695, .int x5_1_14695, .int 0]))]) hS
                  subst hAe
                  rw [hQ]
                  exact W.vret hx hb hr (fun t ht hW => ⟨⟨(v14698, x5_1_14695, x5_1_14695, 0), rfl, ⟨(mm_wk q14702 (by decide)), rx5_1_14695, rx5_1_14695⟩, by rw [ht]; exact hP, hK.warm hW, hD⟩, hS.F ht⟩) hS.2.2 dX7_nextToken_144
                · exact mm_eqN c15909 q14702 mm_k3 (by decide)
              · have q15910 := mm_ltL (h := 599) (mm_nle c15908) rx5_1_14695 h0 (by decide)
                have q15911 := mm_ltR (lo := 1) (mm_nle c15908) rx5_1_14695 h0 (by decide)
                have q15912 := mm_leL (mm_le c14697) q15911 q15910
                have q15913 := mm_leR (mm_le c14697) q15912 q15910
                have q15914 := mm_ltL (h := 598) (mm_nle c15908) q15913 q15912 (by decide)
                have q15915 := mm_leL (mm_le c14697) q15912 q15914
                have q15916 := mm_ltL (h := 597) (mm_nle c15908) q15914 q15915 (by decide)
                have q15917 := mm_leL (mm_le c14697) q15915 q15916
                have q15918 := mm_ltL (h := 596) (mm_nle c15908) q15916 q15917 (by decide)
                have q15919 := mm_leL (mm_le c14697) q15917 q15918
                have q15920 := mm_ltL (h := 595) (mm_nle c15908) q15918 q15919 (by decide)
                have q15921 := mm_leL (mm_le c14697) q15919 q15920
                have q15922 := mm_ltL (h := 594) (mm_nle c15908) q15920 q15921 (by decide)
                have q15923 := mm_leL (mm_le c14697) q15921 q15922
                have q15924 := mm_ltL (h := 593) (mm_nle c15908) q15922 q15923 (by decide)
                have q15925 := mm_leL (mm_le c14697) q15923 q15924
                have q15926 := mm_ltL (h := 592) (mm_nle c15908) q15924 q15925 (by decide)
                have q15927 := mm_leL (mm_le c14697) q15925 q15926
                have q15928 := mm_ltL (h := 591) (mm_nle c15908) q15926 q15927 (by decide)
                have q15929 := mm_leL (mm_le c14697) q15927 q15928
                have q15930 := mm_ltL (h := 590) (mm_nle c15908) q15928 q15929 (by decide)
                have q15931 := mm_leL (mm_le c14697) q15929 q15930
                have q15932 := mm_ltL (h := 589) (mm_nle c15908) q15930 q15931 (by decide)
                have q15933 := mm_leL (mm_le c14697) q15931 q15932
                have q15934 := mm_ltL (h := 588) (mm_nle c15908) q15932 q15933 (by decide)
                have q15935 := mm_leL (mm_le c14697) q15933 q15934
                have q15936 := mm_ltL (h := 587) (mm_nle c15908) q15934 q15935 (by decide)
                have q15937 := mm_leL (mm_le c14697) q15935 q15936
                have q15938 := mm_ltL (h := 586) (mm_nle c15908) q15936 q15937 (by decide)
                have q15939 := mm_leL (mm_le c14697) q15937 q15938
                have q15940 := mm_ltL (h := 585) (mm_nle c15908) q15938 q15939 (by decide)
                have q15941 := mm_leL (mm_le c14697) q15939 q15940
                have q15942 := mm_ltL (h := 584) (mm_nle c15908) q15940 q15941 (by decide)
                have q15943 := mm_leL (mm_le c14697) q15941 q15942
                have q15944 := mm_ltL (h := 583) (mm_nle c15908) q15942 q15943 (by decide)
                have q15945 := mm_leL (mm_le c14697) q15943 q15944
                have q15946 := mm_ltL (h := 582) (mm_nle c15908) q15944 q15945 (by decide)
                have q15947 := mm_leL (mm_le c14697) q15945 q15946
                have q15948 := mm_ltL (h := 581) (mm_nle c15908) q15946 q15947 (by decide)
                have q15949 := mm_leL (mm_le c14697) q15947 q15948
                have q15950 := mm_ltL (h := 580) (mm_nle c15908) q15948 q15949 (by decide)
                have q15951 := mm_leL (mm_le c14697) q15949 q15950
                have q15952 := mm_ltL (h := 579) (mm_nle c15908) q15950 q15951 (by decide)
                have q15953 := mm_leL (mm_le c14697) q15951 q15952
                have q15954 := mm_ltL (h := 578) (mm_nle c15908) q15952 q15953 (by decide)
                have q15955 := mm_leL (mm_le c14697) q15953 q15954
                have q15956 := mm_ltL (h := 577) (mm_nle c15908) q15954 q15955 (by decide)
                have q15957 := mm_leL (mm_le c14697) q15955 q15956
                have q15958 := mm_ltL (h := 576) (mm_nle c15908) q15956 q15957 (by decide)
                have q15959 := mm_leL (mm_le c14697) q15957 q15958
                have q15960 := mm_ltL (h := 575) (mm_nle c15908) q15958 q15959 (by decide)
                have q15961 := mm_leL (mm_le c14697) q15959 q15960
                have q15962 := mm_ltL (h := 574) (mm_nle c15908) q15960 q15961 (by decide)
                have q15963 := mm_leL (mm_le c14697) q15961 q15962
                have q15964 := mm_ltL (h := 573) (mm_nle c15908) q15962 q15963 (by decide)
                have q15965 := mm_leL (mm_le c14697) q15963 q15964
                have q15966 := mm_ltL (h := 572) (mm_nle c15908) q15964 q15965 (by decide)
                have q15967 := mm_leL (mm_le c14697) q15965 q15966
                have q15968 := mm_ltL (h := 571) (mm_nle c15908) q15966 q15967 (by decide)
                have q15969 := mm_leL (mm_le c14697) q15967 q15968
                have q15970 := mm_ltL (h := 570) (mm_nle c15908) q15968 q15969 (by decide)
                have q15971 := mm_leL (mm_le c14697) q15969 q15970
                have q15972 := mm_ltL (h := 569) (mm_nle c15908) q15970 q15971 (by decide)
                have q15973 := mm_leL (mm_le c14697) q15971 q15972
                have q15974 := mm_ltL (h := 568) (mm_nle c15908) q15972 q15973 (by decide)
                have q15975 := mm_leL (mm_le c14697) q15973 q15974
                have q15976 := mm_ltL (h := 567) (mm_nle c15908) q15974 q15975 (by decide)
                have q15977 := mm_leL (mm_le c14697) q15975 q15976
                have q15978 := mm_ltL (h := 566) (mm_nle c15908) q15976 q15977 (by decide)
                have q15979 := mm_leL (mm_le c14697) q15977 q15978
                have q15980 := mm_ltL (h := 565) (mm_nle c15908) q15978 q15979 (by decide)
                have q15981 := mm_leL (mm_le c14697) q15979 q15980
                have q15982 := mm_ltL (h := 564) (mm_nle c15908) q15980 q15981 (by decide)
                have q15983 := mm_leL (mm_le c14697) q15981 q15982
                have q15984 := mm_ltL (h := 563) (mm_nle c15908) q15982 q15983 (by decide)
                have q15985 := mm_leL (mm_le c14697) q15983 q15984
                have q15986 := mm_ltL (h := 562) (mm_nle c15908) q15984 q15985 (by decide)
                have q15987 := mm_leL (mm_le c14697) q15985 q15986
                have q15988 := mm_ltL (h := 561) (mm_nle c15908) q15986 q15987 (by decide)
                have q15989 := mm_leL (mm_le c14697) q15987 q15988
                have q15990 := mm_ltL (h := 560) (mm_nle c15908) q15988 q15989 (by decide)
                have q15991 := mm_leL (mm_le c14697) q15989 q15990
                have q15992 := mm_ltL (h := 559) (mm_nle c15908) q15990 q15991 (by decide)
                have q15993 := mm_leL (mm_le c14697) q15991 q15992
                have q15994 := mm_ltL (h := 558) (mm_nle c15908) q15992 q15993 (by decide)
                have q15995 := mm_leL (mm_le c14697) q15993 q15994
                have q15996 := mm_ltL (h := 557) (mm_nle c15908) q15994 q15995 (by decide)
                have q15997 := mm_leL (mm_le c14697) q15995 q15996
                have q15998 := mm_ltL (h := 556) (mm_nle c15908) q15996 q15997 (by decide)
                have q15999 := mm_leL (mm_le c14697) q15997 q15998
                have q16000 := mm_ltL (h := 555) (mm_nle c15908) q15998 q15999 (by decide)
                have q16001 := mm_leL (mm_le c14697) q15999 q16000
                have q16002 := mm_ltL (h := 554) (mm_nle c15908) q16000 q16001 (by decide)
                have q16003 := mm_leL (mm_le c14697) q16001 q16002
                have q16004 := mm_ltL (h := 553) (mm_nle c15908) q16002 q16003 (by decide)
                have q16005 := mm_leL (mm_le c14697) q16003 q16004
                have q16006 := mm_ltL (h := 552) (mm_nle c15908) q16004 q16005 (by decide)
                have q16007 := mm_leL (mm_le c14697) q16005 q16006
                have q16008 := mm_ltL (h := 551) (mm_nle c15908) q16006 q16007 (by decide)
                have q16009 := mm_leL (mm_le c14697) q16007 q16008
                have q16010 := mm_ltL (h := 550) (mm_nle c15908) q16008 q16009 (by decide)
                have q16011 := mm_leL (mm_le c14697) q16009 q16010
                have q16012 := mm_ltL (h := 549) (mm_nle c15908) q16010 q16011 (by decide)
                have q16013 := mm_leL (mm_le c14697) q16011 q16012
                have q16014 := mm_ltL (h := 548) (mm_nle c15908) q16012 q16013 (by decide)
                have q16015 := mm_leL (mm_le c14697) q16013 q16014
                have q16016 := mm_ltL (h := 547) (mm_nle c15908) q16014 q16015 (by decide)
                have q16017 := mm_leL (mm_le c14697) q16015 q16016
                have q16018 := mm_ltL (h := 546) (mm_nle c15908) q16016 q16017 (by decide)
                have q16019 := mm_leL (mm_le c14697) q16017 q16018
                have q16020 := mm_ltL (h := 545) (mm_nle c15908) q16018 q16019 (by decide)
                have q16021 := mm_leL (mm_le c14697) q16019 q16020
                have q16022 := mm_ltL (h := 544) (mm_nle c15908) q16020 q16021 (by decide)
                have q16023 := mm_leL (mm_le c14697) q16021 q16022
                have q16024 := mm_ltL (h := 543) (mm_nle c15908) q16022 q16023 (by decide)
                have q16025 := mm_leL (mm_le c14697) q16023 q16024
                have q16026 := mm_ltL (h := 542) (mm_nle c15908) q16024 q16025 (by decide)
                have q16027 := mm_leL (mm_le c14697) q16025 q16026
                have q16028 := mm_ltL (h := 541) (mm_nle c15908) q16026 q16027 (by decide)
                have q16029 := mm_leL (mm_le c14697) q16027 q16028
                have q16030 := mm_ltL (h := 540) (mm_nle c15908) q16028 q16029 (by decide)
                have q16031 := mm_leL (mm_le c14697) q16029 q16030
                have q16032 := mm_ltL (h := 539) (mm_nle c15908) q16030 q16031 (by decide)
                have q16033 := mm_leL (mm_le c14697) q16031 q16032
                have q16034 := mm_ltL (h := 538) (mm_nle c15908) q16032 q16033 (by decide)
                have q16035 := mm_leL (mm_le c14697) q16033 q16034
                have q16036 := mm_ltL (h := 537) (mm_nle c15908) q16034 q16035 (by decide)
                have q16037 := mm_leL (mm_le c14697) q16035 q16036
                have q16038 := mm_ltL (h := 536) (mm_nle c15908) q16036 q16037 (by decide)
                have q16039 := mm_leL (mm_le c14697) q16037 q16038
                have q16040 := mm_ltL (h := 535) (mm_nle c15908) q16038 q16039 (by decide)
                have q16041 := mm_leL (mm_le c14697) q16039 q16040
                have q16042 := mm_ltL (h := 534) (mm_nle c15908) q16040 q16041 (by decide)
                have q16043 := mm_leL (mm_le c14697) q16041 q16042
                have q16044 := mm_ltL (h := 533) (mm_nle c15908) q16042 q16043 (by decide)
                have q16045 := mm_leL (mm_le c14697) q16043 q16044
                have q16046 := mm_ltL (h := 532) (mm_nle c15908) q16044 q16045 (by decide)
                have q16047 := mm_leL (mm_le c14697) q16045 q16046
                have q16048 := mm_ltL (h := 531) (mm_nle c15908) q16046 q16047 (by decide)
                have q16049 := mm_leL (mm_le c14697) q16047 q16048
                have q16050 := mm_ltL (h := 530) (mm_nle c15908) q16048 q16049 (by decide)
                have q16051 := mm_leL (mm_le c14697) q16049 q16050
                have q16052 := mm_ltL (h := 529) (mm_nle c15908) q16050 q16051 (by decide)
                have q16053 := mm_leL (mm_le c14697) q16051 q16052
                have q16054 := mm_ltL (h := 528) (mm_nle c15908) q16052 q16053 (by decide)
                have q16055 := mm_leL (mm_le c14697) q16053 q16054
                have q16056 := mm_ltL (h := 527) (mm_nle c15908) q16054 q16055 (by decide)
                have q16057 := mm_leL (mm_le c14697) q16055 q16056
                have q16058 := mm_ltL (h := 526) (mm_nle c15908) q16056 q16057 (by decide)
                have q16059 := mm_leL (mm_le c14697) q16057 q16058
                have q16060 := mm_ltL (h := 525) (mm_nle c15908) q16058 q16059 (by decide)
                have q16061 := mm_leL (mm_le c14697) q16059 q16060
                have q16062 := mm_ltL (h := 524) (mm_nle c15908) q16060 q16061 (by decide)
                have q16063 := mm_leL (mm_le c14697) q16061 q16062
                have q16064 := mm_ltL (h := 523) (mm_nle c15908) q16062 q16063 (by decide)
                have q16065 := mm_leL (mm_le c14697) q16063 q16064
                have q16066 := mm_ltL (h := 522) (mm_nle c15908) q16064 q16065 (by decide)
                have q16067 := mm_leL (mm_le c14697) q16065 q16066
                have q16068 := mm_ltL (h := 521) (mm_nle c15908) q16066 q16067 (by decide)
                have q16069 := mm_leL (mm_le c14697) q16067 q16068
                have q16070 := mm_ltL (h := 520) (mm_nle c15908) q16068 q16069 (by decide)
                have q16071 := mm_leL (mm_le c14697) q16069 q16070
                have q16072 := mm_ltL (h := 519) (mm_nle c15908) q16070 q16071 (by decide)
                have q16073 := mm_leL (mm_le c14697) q16071 q16072
                have q16074 := mm_ltL (h := 518) (mm_nle c15908) q16072 q16073 (by decide)
                have q16075 := mm_leL (mm_le c14697) q16073 q16074
                have q16076 := mm_ltL (h := 517) (mm_nle c15908) q16074 q16075 (by decide)
                have q16077 := mm_leL (mm_le c14697) q16075 q16076
                have q16078 := mm_ltL (h := 516) (mm_nle c15908) q16076 q16077 (by decide)
                have q16079 := mm_leL (mm_le c14697) q16077 q16078
                have q16080 := mm_ltL (h := 515) (mm_nle c15908) q16078 q16079 (by decide)
                have q16081 := mm_leL (mm_le c14697) q16079 q16080
                have q16082 := mm_ltL (h := 514) (mm_nle c15908) q16080 q16081 (by decide)
                have q16083 := mm_leL (mm_le c14697) q16081 q16082
                have q16084 := mm_ltL (h := 513) (mm_nle c15908) q16082 q16083 (by decide)
                have q16085 := mm_leL (mm_le c14697) q16083 q16084
                have q16086 := mm_ltL (h := 512) (mm_nle c15908) q16084 q16085 (by decide)
                have q16087 := mm_leL (mm_le c14697) q16085 q16086
                have q16088 := mm_ltL (h := 511) (mm_nle c15908) q16086 q16087 (by decide)
                have q16089 := mm_leL (mm_le c14697) q16087 q16088
                have q16090 := mm_ltL (h := 510) (mm_nle c15908) q16088 q16089 (by decide)
                have q16091 := mm_leL (mm_le c14697) q16089 q16090
                have q16092 := mm_ltL (h := 509) (mm_nle c15908) q16090 q16091 (by decide)
                have q16093 := mm_leL (mm_le c14697) q16091 q16092
                have q16094 := mm_ltL (h := 508) (mm_nle c15908) q16092 q16093 (by decide)
                have q16095 := mm_leL (mm_le c14697) q16093 q16094
                have q16096 := mm_ltL (h := 507) (mm_nle c15908) q16094 q16095 (by decide)
                have q16097 := mm_leL (mm_le c14697) q16095 q16096
                have q16098 := mm_ltL (h := 506) (mm_nle c15908) q16096 q16097 (by decide)
                have q16099 := mm_leL (mm_le c14697) q16097 q16098
                have q16100 := mm_ltL (h := 505) (mm_nle c15908) q16098 q16099 (by decide)
                have q16101 := mm_leL (mm_le c14697) q16099 q16100
                have q16102 := mm_ltL (h := 504) (mm_nle c15908) q16100 q16101 (by decide)
                have q16103 := mm_leL (mm_le c14697) q16101 q16102
                have q16104 := mm_ltL (h := 503) (mm_nle c15908) q16102 q16103 (by decide)
                have q16105 := mm_leL (mm_le c14697) q16103 q16104
                have q16106 := mm_ltL (h := 502) (mm_nle c15908) q16104 q16105 (by decide)
                have q16107 := mm_leL (mm_le c14697) q16105 q16106
                have q16108 := mm_ltL (h := 501) (mm_nle c15908) q16106 q16107 (by decide)
                have q16109 := mm_leL (mm_le c14697) q16107 q16108
                have q16110 := mm_ltL (h := 500) (mm_nle c15908) q16108 q16109 (by decide)
                have q16111 := mm_leL (mm_le c14697) q16109 q16110
                have q16112 := mm_ltL (h := 499) (mm_nle c15908) q16110 q16111 (by decide)
                have q16113 := mm_leL (mm_le c14697) q16111 q16112
                have q16114 := mm_ltL (h := 498) (mm_nle c15908) q16112 q16113 (by decide)
                have q16115 := mm_leL (mm_le c14697) q16113 q16114
                have q16116 := mm_ltL (h := 497) (mm_nle c15908) q16114 q16115 (by decide)
                have q16117 := mm_leL (mm_le c14697) q16115 q16116
                have q16118 := mm_ltL (h := 496) (mm_nle c15908) q16116 q16117 (by decide)
                have q16119 := mm_leL (mm_le c14697) q16117 q16118
                have q16120 := mm_ltL (h := 495) (mm_nle c15908) q16118 q16119 (by decide)
                have q16121 := mm_leL (mm_le c14697) q16119 q16120
                have q16122 := mm_ltL (h := 494) (mm_nle c15908) q16120 q16121 (by decide)
                have q16123 := mm_leL (mm_le c14697) q16121 q16122
                have q16124 := mm_ltL (h := 493) (mm_nle c15908) q16122 q16123 (by decide)
                have q16125 := mm_leL (mm_le c14697) q16123 q16124
                have q16126 := mm_ltL (h := 492) (mm_nle c15908) q16124 q16125 (by decide)
                have q16127 := mm_leL (mm_le c14697) q16125 q16126
                have q16128 := mm_ltL (h := 491) (mm_nle c15908) q16126 q16127 (by decide)
                have q16129 := mm_leL (mm_le c14697) q16127 q16128
                have q16130 := mm_ltL (h := 490) (mm_nle c15908) q16128 q16129 (by decide)
                have q16131 := mm_leL (mm_le c14697) q16129 q16130
                have q16132 := mm_ltL (h := 489) (mm_nle c15908) q16130 q16131 (by decide)
                have q16133 := mm_leL (mm_le c14697) q16131 q16132
                have q16134 := mm_ltL (h := 488) (mm_nle c15908) q16132 q16133 (by decide)
                have q16135 := mm_leL (mm_le c14697) q16133 q16134
                have q16136 := mm_ltL (h := 487) (mm_nle c15908) q16134 q16135 (by decide)
                have q16137 := mm_leL (mm_le c14697) q16135 q16136
                have q16138 := mm_ltL (h := 486) (mm_nle c15908) q16136 q16137 (by decide)
                have q16139 := mm_leL (mm_le c14697) q16137 q16138
                have q16140 := mm_ltL (h := 485) (mm_nle c15908) q16138 q16139 (by decide)
                have q16141 := mm_leL (mm_le c14697) q16139 q16140
                have q16142 := mm_ltL (h := 484) (mm_nle c15908) q16140 q16141 (by decide)
                have q16143 := mm_leL (mm_le c14697) q16141 q16142
                have q16144 := mm_ltL (h := 483) (mm_nle c15908) q16142 q16143 (by decide)
                have q16145 := mm_leL (mm_le c14697) q16143 q16144
                have q16146 := mm_ltL (h := 482) (mm_nle c15908) q16144 q16145 (by decide)
                have q16147 := mm_leL (mm_le c14697) q16145 q16146
                have q16148 := mm_ltL (h := 481) (mm_nle c15908) q16146 q16147 (by decide)
                have q16149 := mm_leL (mm_le c14697) q16147 q16148
                have q16150 := mm_ltL (h := 480) (mm_nle c15908) q16148 q16149 (by decide)
                have q16151 := mm_leL (mm_le c14697) q16149 q16150
                have q16152 := mm_ltL (h := 479) (mm_nle c15908) q16150 q16151 (by decide)
                have q16153 := mm_leL (mm_le c14697) q16151 q16152
                have q16154 := mm_ltL (h := 478) (mm_nle c15908) q16152 q16153 (by decide)
                have q16155 := mm_leL (mm_le c14697) q16153 q16154
                have q16156 := mm_ltL (h := 477) (mm_nle c15908) q16154 q16155 (by decide)
                have q16157 := mm_leL (mm_le c14697) q16155 q16156
                have q16158 := mm_ltL (h := 476) (mm_nle c15908) q16156 q16157 (by decide)
                have q16159 := mm_leL (mm_le c14697) q16157 q16158
                have q16160 := mm_ltL (h := 475) (mm_nle c15908) q16158 q16159 (by decide)
                have q16161 := mm_leL (mm_le c14697) q16159 q16160
                have q16162 := mm_ltL (h := 474) (mm_nle c15908) q16160 q16161 (by decide)
                have q16163 := mm_leL (mm_le c14697) q16161 q16162
                have q16164 := mm_ltL (h := 473) (mm_nle c15908) q16162 q16163 (by decide)
                have q16165 := mm_leL (mm_le c14697) q16163 q16164
                have q16166 := mm_ltL (h := 472) (mm_nle c15908) q16164 q16165 (by decide)
                have q16167 := mm_leL (mm_le c14697) q16165 q16166
                have q16168 := mm_ltL (h := 471) (mm_nle c15908) q16166 q16167 (by decide)
                have q16169 := mm_leL (mm_le c14697) q16167 q16168
                have q16170 := mm_ltL (h := 470) (mm_nle c15908) q16168 q16169 (by decide)
                have q16171 := mm_leL (mm_le c14697) q16169 q16170
                have q16172 := mm_ltL (h := 469) (mm_nle c15908) q16170 q16171 (by decide)
                have q16173 := mm_leL (mm_le c14697) q16171 q16172
                have q16174 := mm_ltL (h := 468) (mm_nle c15908) q16172 q16173 (by decide)
                have q16175 := mm_leL (mm_le c14697) q16173 q16174
                have q16176 := mm_ltL (h := 467) (mm_nle c15908) q16174 q16175 (by decide)
                have q16177 := mm_leL (mm_le c14697) q16175 q16176
                have q16178 := mm_ltL (h := 466) (mm_nle c15908) q16176 q16177 (by decide)
                have q16179 := mm_leL (mm_le c14697) q16177 q16178
                have q16180 := mm_ltL (h := 465) (mm_nle c15908) q16178 q16179 (by decide)
                have q16181 := mm_leL (mm_le c14697) q16179 q16180
                have q16182 := mm_ltL (h := 464) (mm_nle c15908) q16180 q16181 (by decide)
                have q16183 := mm_leL (mm_le c14697) q16181 q16182
                have q16184 := mm_ltL (h := 463) (mm_nle c15908) q16182 q16183 (by decide)
                have q16185 := mm_leL (mm_le c14697) q16183 q16184
                have q16186 := mm_ltL (h := 462) (mm_nle c15908) q16184 q16185 (by decide)
                have q16187 := mm_leL (mm_le c14697) q16185 q16186
                have q16188 := mm_ltL (h := 461) (mm_nle c15908) q16186 q16187 (by decide)
                have q16189 := mm_leL (mm_le c14697) q16187 q16188
                have q16190 := mm_ltL (h := 460) (mm_nle c15908) q16188 q16189 (by decide)
                have q16191 := mm_leL (mm_le c14697) q16189 q16190
                have q16192 := mm_ltL (h := 459) (mm_nle c15908) q16190 q16191 (by decide)
                have q16193 := mm_leL (mm_le c14697) q16191 q16192
                have q16194 := mm_ltL (h := 458) (mm_nle c15908) q16192 q16193 (by decide)
                have q16195 := mm_leL (mm_le c14697) q16193 q16194
                have q16196 := mm_ltL (h := 457) (mm_nle c15908) q16194 q16195 (by decide)
                have q16197 := mm_leL (mm_le c14697) q16195 q16196
                have q16198 := mm_ltL (h := 456) (mm_nle c15908) q16196 q16197 (by decide)
                have q16199 := mm_leL (mm_le c14697) q16197 q16198
                have q16200 := mm_ltL (h := 455) (mm_nle c15908) q16198 q16199 (by decide)
                have q16201 := mm_leL (mm_le c14697) q16199 q16200
                have q16202 := mm_ltL (h := 454) (mm_nle c15908) q16200 q16201 (by decide)
                have q16203 := mm_leL (mm_le c14697) q16201 q16202
                have q16204 := mm_ltL (h := 453) (mm_nle c15908) q16202 q16203 (by decide)
                have q16205 := mm_leL (mm_le c14697) q16203 q16204
                have q16206 := mm_ltL (h := 452) (mm_nle c15908) q16204 q16205 (by decide)
                have q16207 := mm_leL (mm_le c14697) q16205 q16206
                have q16208 := mm_ltL (h := 451) (mm_nle c15908) q16206 q16207 (by decide)
                have q16209 := mm_leL (mm_le c14697) q16207 q16208
                have q16210 := mm_ltL (h := 450) (mm_nle c15908) q16208 q16209 (by decide)
                have q16211 := mm_leL (mm_le c14697) q16209 q16210
                have q16212 := mm_ltL (h := 449) (mm_nle c15908) q16210 q16211 (by decide)
                have q16213 := mm_leL (mm_le c14697) q16211 q16212
                have q16214 := mm_ltL (h := 448) (mm_nle c15908) q16212 q16213 (by decide)
                have q16215 := mm_leL (mm_le c14697) q16213 q16214
                have q16216 := mm_ltL (h := 447) (mm_nle c15908) q16214 q16215 (by decide)
                have q16217 := mm_leL (mm_le c14697) q16215 q16216
                have q16218 := mm_ltL (h := 446) (mm_nle c15908) q16216 q16217 (by decide)
                have q16219 := mm_leL (mm_le c14697) q16217 q16218
                have q16220 := mm_ltL (h := 445) (mm_nle c15908) q16218 q16219 (by decide)
                have q16221 := mm_leL (mm_le c14697) q16219 q16220
                have q16222 := mm_ltL (h := 444) (mm_nle c15908) q16220 q16221 (by decide)
                have q16223 := mm_leL (mm_le c14697) q16221 q16222
                have q16224 := mm_ltL (h := 443) (mm_nle c15908) q16222 q16223 (by decide)
                have q16225 := mm_leL (mm_le c14697) q16223 q16224
                have q16226 := mm_ltL (h := 442) (mm_nle c15908) q16224 q16225 (by decide)
                have q16227 := mm_leL (mm_le c14697) q16225 q16226
                have q16228 := mm_ltL (h := 441) (mm_nle c15908) q16226 q16227 (by decide)
                have q16229 := mm_leL (mm_le c14697) q16227 q16228
                have q16230 := mm_ltL (h := 440) (mm_nle c15908) q16228 q16229 (by decide)
                have q16231 := mm_leL (mm_le c14697) q16229 q16230
                have q16232 := mm_ltL (h := 439) (mm_nle c15908) q16230 q16231 (by decide)
                have q16233 := mm_leL (mm_le c14697) q16231 q16232
                have q16234 := mm_ltL (h := 438) (mm_nle c15908) q16232 q16233 (by decide)
                have q16235 := mm_leL (mm_le c14697) q16233 q16234
                have q16236 := mm_ltL (h := 437) (mm_nle c15908) q16234 q16235 (by decide)
                have q16237 := mm_leL (mm_le c14697) q16235 q16236
                have q16238 := mm_ltL (h := 436) (mm_nle c15908) q16236 q16237 (by decide)
                have q16239 := mm_leL (mm_le c14697) q16237 q16238
                have q16240 := mm_ltL (h := 435) (mm_nle c15908) q16238 q16239 (by decide)
                have q16241 := mm_leL (mm_le c14697) q16239 q16240
                have q16242 := mm_ltL (h := 434) (mm_nle c15908) q16240 q16241 (by decide)
                have q16243 := mm_leL (mm_le c14697) q16241 q16242
                have q16244 := mm_ltL (h := 433) (mm_nle c15908) q16242 q16243 (by decide)
                have q16245 := mm_leL (mm_le c14697) q16243 q16244
                have q16246 := mm_ltL (h := 432) (mm_nle c15908) q16244 q16245 (by decide)
                have q16247 := mm_leL (mm_le c14697) q16245 q16246
                have q16248 := mm_ltL (h := 431) (mm_nle c15908) q16246 q16247 (by decide)
                have q16249 := mm_leL (mm_le c14697) q16247 q16248
                have q16250 := mm_ltL (h := 430) (mm_nle c15908) q16248 q16249 (by decide)
                have q16251 := mm_leL (mm_le c14697) q16249 q16250
                have q16252 := mm_ltL (h := 429) (mm_nle c15908) q16250 q16251 (by decide)
                have q16253 := mm_leL (mm_le c14697) q16251 q16252
                have q16254 := mm_ltL (h := 428) (mm_nle c15908) q16252 q16253 (by decide)
                have q16255 := mm_leL (mm_le c14697) q16253 q16254
                have q16256 := mm_ltL (h := 427) (mm_nle c15908) q16254 q16255 (by decide)
                have q16257 := mm_leL (mm_le c14697) q16255 q16256
                have q16258 := mm_ltL (h := 426) (mm_nle c15908) q16256 q16257 (by decide)
                have q16259 := mm_leL (mm_le c14697) q16257 q16258
                have q16260 := mm_ltL (h := 425) (mm_nle c15908) q16258 q16259 (by decide)
                have q16261 := mm_leL (mm_le c14697) q16259 q16260
                have q16262 := mm_ltL (h := 424) (mm_nle c15908) q16260 q16261 (by decide)
                have q16263 := mm_leL (mm_le c14697) q16261 q16262
                have q16264 := mm_ltL (h := 423) (mm_nle c15908) q16262 q16263 (by decide)
                have q16265 := mm_leL (mm_le c14697) q16263 q16264
                have q16266 := mm_ltL (h := 422) (mm_nle c15908) q16264 q16265 (by decide)
                have q16267 := mm_leL (mm_le c14697) q16265 q16266
                have q16268 := mm_ltL (h := 421) (mm_nle c15908) q16266 q16267 (by decide)
                have q16269 := mm_leL (mm_le c14697) q16267 q16268
                have q16270 := mm_ltL (h := 420) (mm_nle c15908) q16268 q16269 (by decide)
                have q16271 := mm_leL (mm_le c14697) q16269 q16270
                have q16272 := mm_ltL (h := 419) (mm_nle c15908) q16270 q16271 (by decide)
                have q16273 := mm_leL (mm_le c14697) q16271 q16272
                have q16274 := mm_ltL (h := 418) (mm_nle c15908) q16272 q16273 (by decide)
                have q16275 := mm_leL (mm_le c14697) q16273 q16274
                have q16276 := mm_ltL (h := 417) (mm_nle c15908) q16274 q16275 (by decide)
                have q16277 := mm_leL (mm_le c14697) q16275 q16276
                have q16278 := mm_ltL (h := 416) (mm_nle c15908) q16276 q16277 (by decide)
                have q16279 := mm_leL (mm_le c14697) q16277 q16278
                have q16280 := mm_ltL (h := 415) (mm_nle c15908) q16278 q16279 (by decide)
                have q16281 := mm_leL (mm_le c14697) q16279 q16280
                have q16282 := mm_ltL (h := 414) (mm_nle c15908) q16280 q16281 (by decide)
                have q16283 := mm_leL (mm_le c14697) q16281 q16282
                have q16284 := mm_ltL (h := 413) (mm_nle c15908) q16282 q16283 (by decide)
                have q16285 := mm_leL (mm_le c14697) q16283 q16284
                have q16286 := mm_ltL (h := 412) (mm_nle c15908) q16284 q16285 (by decide)
                have q16287 := mm_leL (mm_le c14697) q16285 q16286
                have q16288 := mm_ltL (h := 411) (mm_nle c15908) q16286 q16287 (by decide)
                have q16289 := mm_leL (mm_le c14697) q16287 q16288
                have q16290 := mm_ltL (h := 410) (mm_nle c15908) q16288 q16289 (by decide)
                have q16291 := mm_leL (mm_le c14697) q16289 q16290
                have q16292 := mm_ltL (h := 409) (mm_nle c15908) q16290 q16291 (by decide)
                have q16293 := mm_leL (mm_le c14697) q16291 q16292
                have q16294 := mm_ltL (h := 408) (mm_nle c15908) q16292 q16293 (by decide)
                have q16295 := mm_leL (mm_le c14697) q16293 q16294
                have q16296 := mm_ltL (h := 407) (mm_nle c15908) q16294 q16295 (by decide)
                have q16297 := mm_leL (mm_le c14697) q16295 q16296
                have q16298 := mm_ltL (h := 406) (mm_nle c15908) q16296 q16297 (by decide)
                have q16299 := mm_leL (mm_le c14697) q16297 q16298
                have q16300 := mm_ltL (h := 405) (mm_nle c15908) q16298 q16299 (by decide)
                have q16301 := mm_leL (mm_le c14697) q16299 q16300
                have q16302 := mm_ltL (h := 404) (mm_nle c15908) q16300 q16301 (by decide)
                have q16303 := mm_leL (mm_le c14697) q16301 q16302
                have q16304 := mm_ltL (h := 403) (mm_nle c15908) q16302 q16303 (by decide)
                have q16305 := mm_leL (mm_le c14697) q16303 q16304
                have q16306 := mm_ltL (h := 402) (mm_nle c15908) q16304 q16305 (by decide)
                have q16307 := mm_leL (mm_le c14697) q16305 q16306
                have q16308 := mm_ltL (h := 401) (mm_nle c15908) q16306 q16307 (by decide)
                have q16309 := mm_leL (mm_le c14697) q16307 q16308
                have q16310 := mm_ltL (h := 400) (mm_nle c15908) q16308 q16309 (by decide)
                have q16311 := mm_leL (mm_le c14697) q16309 q16310
                have q16312 := mm_ltL (h := 399) (mm_nle c15908) q16310 q16311 (by decide)
                have q16313 := mm_leL (mm_le c14697) q16311 q16312
                have q16314 := mm_ltL (h := 398) (mm_nle c15908) q16312 q16313 (by decide)
                have q16315 := mm_leL (mm_le c14697) q16313 q16314
                have q16316 := mm_ltL (h := 397) (mm_nle c15908) q16314 q16315 (by decide)
                have q16317 := mm_leL (mm_le c14697) q16315 q16316
                have q16318 := mm_ltL (h := 396) (mm_nle c15908) q16316 q16317 (by decide)
                have q16319 := mm_leL (mm_le c14697) q16317 q16318
                have q16320 := mm_ltL (h := 395) (mm_nle c15908) q16318 q16319 (by decide)
                have q16321 := mm_leL (mm_le c14697) q16319 q16320
                have q16322 := mm_ltL (h := 394) (mm_nle c15908) q16320 q16321 (by decide)
                have q16323 := mm_leL (mm_le c14697) q16321 q16322
                have q16324 := mm_ltL (h := 393) (mm_nle c15908) q16322 q16323 (by decide)
                have q16325 := mm_leL (mm_le c14697) q16323 q16324
                have q16326 := mm_ltL (h := 392) (mm_nle c15908) q16324 q16325 (by decide)
                have q16327 := mm_leL (mm_le c14697) q16325 q16326
                have q16328 := mm_ltL (h := 391) (mm_nle c15908) q16326 q16327 (by decide)
                have q16329 := mm_leL (mm_le c14697) q16327 q16328
                have q16330 := mm_ltL (h := 390) (mm_nle c15908) q16328 q16329 (by decide)
                have q16331 := mm_leL (mm_le c14697) q16329 q16330
                have q16332 := mm_ltL (h := 389) (mm_nle c15908) q16330 q16331 (by decide)
                have q16333 := mm_leL (mm_le c14697) q16331 q16332
                have q16334 := mm_ltL (h := 388) (mm_nle c15908) q16332 q16333 (by decide)
                have q16335 := mm_leL (mm_le c14697) q16333 q16334
                have q16336 := mm_ltL (h := 387) (mm_nle c15908) q16334 q16335 (by decide)
                have q16337 := mm_leL (mm_le c14697) q16335 q16336
                have q16338 := mm_ltL (h := 386) (mm_nle c15908) q16336 q16337 (by decide)
                have q16339 := mm_leL (mm_le c14697) q16337 q16338
                have q16340 := mm_ltL (h := 385) (mm_nle c15908) q16338 q16339 (by decide)
                have q16341 := mm_leL (mm_le c14697) q16339 q16340
                have q16342 := mm_ltL (h := 384) (mm_nle c15908) q16340 q16341 (by decide)
                have q16343 := mm_leL (mm_le c14697) q16341 q16342
                have q16344 := mm_ltL (h := 383) (mm_nle c15908) q16342 q16343 (by decide)
                have q16345 := mm_leL (mm_le c14697) q16343 q16344
                have q16346 := mm_ltL (h := 382) (mm_nle c15908) q16344 q16345 (by decide)
                have q16347 := mm_leL (mm_le c14697) q16345 q16346
                have q16348 := mm_ltL (h := 381) (mm_nle c15908) q16346 q16347 (by decide)
                have q16349 := mm_leL (mm_le c14697) q16347 q16348
                have q16350 := mm_ltL (h := 380) (mm_nle c15908) q16348 q16349 (by decide)
                have q16351 := mm_leL (mm_le c14697) q16349 q16350
                have q16352 := mm_ltL (h := 379) (mm_nle c15908) q16350 q16351 (by decide)
                have q16353 := mm_leL (mm_le c14697) q16351 q16352
                have q16354 := mm_ltL (h := 378) (mm_nle c15908) q16352 q16353 (by decide)
                have q16355 := mm_leL (mm_le c14697) q16353 q16354
                have q16356 := mm_ltL (h := 377) (mm_nle c15908) q16354 q16355 (by decide)
                have q16357 := mm_leL (mm_le c14697) q16355 q16356
                have q16358 := mm_ltL (h := 376) (mm_nle c15908) q16356 q16357 (by decide)
                have q16359 := mm_leL (mm_le c14697) q16357 q16358
                have q16360 := mm_ltL (h := 375) (mm_nle c15908) q16358 q16359 (by decide)
                have q16361 := mm_leL (mm_le c14697) q16359 q16360
                have q16362 := mm_ltL (h := 374) (mm_nle c15908) q16360 q16361 (by decide)
                have q16363 := mm_leL (mm_le c14697) q16361 q16362
                have q16364 := mm_ltL (h := 373) (mm_nle c15908) q16362 q16363 (by decide)
                have q16365 := mm_leL (mm_le c14697) q16363 q16364
                have q16366 := mm_ltL (h := 372) (mm_nle c15908) q16364 q16365 (by decide)
                have q16367 := mm_leL (mm_le c14697) q16365 q16366
                have q16368 := mm_ltL (h := 371) (mm_nle c15908) q16366 q16367 (by decide)
                have q16369 := mm_leL (mm_le c14697) q16367 q16368
                have q16370 := mm_ltL (h := 370) (mm_nle c15908) q16368 q16369 (by decide)
                have q16371 := mm_leL (mm_le c14697) q16369 q16370
                have q16372 := mm_ltL (h := 369) (mm_nle c15908) q16370 q16371 (by decide)
                have q16373 := mm_leL (mm_le c14697) q16371 q16372
                have q16374 := mm_ltL (h := 368) (mm_nle c15908) q16372 q16373 (by decide)
                have q16375 := mm_leL (mm_le c14697) q16373 q16374
                have q16376 := mm_ltL (h := 367) (mm_nle c15908) q16374 q16375 (by decide)
                have q16377 := mm_leL (mm_le c14697) q16375 q16376
                have q16378 := mm_ltL (h := 366) (mm_nle c15908) q16376 q16377 (by decide)
                have q16379 := mm_leL (mm_le c14697) q16377 q16378
                have q16380 := mm_ltL (h := 365) (mm_nle c15908) q16378 q16379 (by decide)
                have q16381 := mm_leL (mm_le c14697) q16379 q16380
                have q16382 := mm_ltL (h := 364) (mm_nle c15908) q16380 q16381 (by decide)
                have q16383 := mm_leL (mm_le c14697) q16381 q16382
                have q16384 := mm_ltL (h := 363) (mm_nle c15908) q16382 q16383 (by decide)
                have q16385 := mm_leL (mm_le c14697) q16383 q16384
                have q16386 := mm_ltL (h := 362) (mm_nle c15908) q16384 q16385 (by decide)
                have q16387 := mm_leL (mm_le c14697) q16385 q16386
                have q16388 := mm_ltL (h := 361) (mm_nle c15908) q16386 q16387 (by decide)
                have q16389 := mm_leL (mm_le c14697) q16387 q16388
                have q16390 := mm_ltL (h := 360) (mm_nle c15908) q16388 q16389 (by decide)
                have q16391 := mm_leL (mm_le c14697) q16389 q16390
                have q16392 := mm_ltL (h := 359) (mm_nle c15908) q16390 q16391 (by decide)
                have q16393 := mm_leL (mm_le c14697) q16391 q16392
                have q16394 := mm_ltL (h := 358) (mm_nle c15908) q16392 q16393 (by decide)
                have q16395 := mm_leL (mm_le c14697) q16393 q16394
                have q16396 := mm_ltL (h := 357) (mm_nle c15908) q16394 q16395 (by decide)
                have q16397 := mm_leL (mm_le c14697) q16395 q16396
                have q16398 := mm_ltL (h := 356) (mm_nle c15908) q16396 q16397 (by decide)
                have q16399 := mm_leL (mm_le c14697) q16397 q16398
                have q16400 := mm_ltL (h := 355) (mm_nle c15908) q16398 q16399 (by decide)
                have q16401 := mm_leL (mm_le c14697) q16399 q16400
                have q16402 := mm_ltL (h := 354) (mm_nle c15908) q16400 q16401 (by decide)
                have q16403 := mm_leL (mm_le c14697) q16401 q16402
                have q16404 := mm_ltL (h := 353) (mm_nle c15908) q16402 q16403 (by decide)
                have q16405 := mm_leL (mm_le c14697) q16403 q16404
                have q16406 := mm_ltL (h := 352) (mm_nle c15908) q16404 q16405 (by decide)
                have q16407 := mm_leL (mm_le c14697) q16405 q16406
                have q16408 := mm_ltL (h := 351) (mm_nle c15908) q16406 q16407 (by decide)
                have q16409 := mm_leL (mm_le c14697) q16407 q16408
                have q16410 := mm_ltL (h := 350) (mm_nle c15908) q16408 q16409 (by decide)
                have q16411 := mm_leL (mm_le c14697) q16409 q16410
                have q16412 := mm_ltL (h := 349) (mm_nle c15908) q16410 q16411 (by decide)
                have q16413 := mm_leL (mm_le c14697) q16411 q16412
                have q16414 := mm_ltL (h := 348) (mm_nle c15908) q16412 q16413 (by decide)
                have q16415 := mm_leL (mm_le c14697) q16413 q16414
                have q16416 := mm_ltL (h := 347) (mm_nle c15908) q16414 q16415 (by decide)
                have q16417 := mm_leL (mm_le c14697) q16415 q16416
                have q16418 := mm_ltL (h := 346) (mm_nle c15908) q16416 q16417 (by decide)
                have q16419 := mm_leL (mm_le c14697) q16417 q16418
                have q16420 := mm_ltL (h := 345) (mm_nle c15908) q16418 q16419 (by decide)
                have q16421 := mm_leL (mm_le c14697) q16419 q16420
                have q16422 := mm_ltL (h := 344) (mm_nle c15908) q16420 q16421 (by decide)
                have q16423 := mm_leL (mm_le c14697) q16421 q16422
                have q16424 := mm_ltL (h := 343) (mm_nle c15908) q16422 q16423 (by decide)
                have q16425 := mm_leL (mm_le c14697) q16423 q16424
                have q16426 := mm_ltL (h := 342) (mm_nle c15908) q16424 q16425 (by decide)
                have q16427 := mm_leL (mm_le c14697) q16425 q16426
                have q16428 := mm_ltL (h := 341) (mm_nle c15908) q16426 q16427 (by decide)
                have q16429 := mm_leL (mm_le c14697) q16427 q16428
                have q16430 := mm_ltL (h := 340) (mm_nle c15908) q16428 q16429 (by decide)
                have q16431 := mm_leL (mm_le c14697) q16429 q16430
                have q16432 := mm_ltL (h := 339) (mm_nle c15908) q16430 q16431 (by decide)
                have q16433 := mm_leL (mm_le c14697) q16431 q16432
                have q16434 := mm_ltL (h := 338) (mm_nle c15908) q16432 q16433 (by decide)
                have q16435 := mm_leL (mm_le c14697) q16433 q16434
                have q16436 := mm_ltL (h := 337) (mm_nle c15908) q16434 q16435 (by decide)
                have q16437 := mm_leL (mm_le c14697) q16435 q16436
                have q16438 := mm_ltL (h := 336) (mm_nle c15908) q16436 q16437 (by decide)
                have q16439 := mm_leL (mm_le c14697) q16437 q16438
                have q16440 := mm_ltL (h := 335) (mm_nle c15908) q16438 q16439 (by decide)
                have q16441 := mm_leL (mm_le c14697) q16439 q16440
                have q16442 := mm_ltL (h := 334) (mm_nle c15908) q16440 q16441 (by decide)
                have q16443 := mm_leL (mm_le c14697) q16441 q16442
                have q16444 := mm_ltL (h := 333) (mm_nle c15908) q16442 q16443 (by decide)
                have q16445 := mm_leL (mm_le c14697) q16443 q16444
                have q16446 := mm_ltL (h := 332) (mm_nle c15908) q16444 q16445 (by decide)
                have q16447 := mm_leL (mm_le c14697) q16445 q16446
                have q16448 := mm_ltL (h := 331) (mm_nle c15908) q16446 q16447 (by decide)
                have q16449 := mm_leL (mm_le c14697) q16447 q16448
                have q16450 := mm_ltL (h := 330) (mm_nle c15908) q16448 q16449 (by decide)
                have q16451 := mm_leL (mm_le c14697) q16449 q16450
                have q16452 := mm_ltL (h := 329) (mm_nle c15908) q16450 q16451 (by decide)
                have q16453 := mm_leL (mm_le c14697) q16451 q16452
                have q16454 := mm_ltL (h := 328) (mm_nle c15908) q16452 q16453 (by decide)
                have q16455 := mm_leL (mm_le c14697) q16453 q16454
                have q16456 := mm_ltL (h := 327) (mm_nle c15908) q16454 q16455 (by decide)
                have q16457 := mm_leL (mm_le c14697) q16455 q16456
                have q16458 := mm_ltL (h := 326) (mm_nle c15908) q16456 q16457 (by decide)
                have q16459 := mm_leL (mm_le c14697) q16457 q16458
                have q16460 := mm_ltL (h := 325) (mm_nle c15908) q16458 q16459 (by decide)
                have q16461 := mm_leL (mm_le c14697) q16459 q16460
                have q16462 := mm_ltL (h := 324) (mm_nle c15908) q16460 q16461 (by decide)
                have q16463 := mm_leL (mm_le c14697) q16461 q16462
                have q16464 := mm_ltL (h := 323) (mm_nle c15908) q16462 q16463 (by decide)
                have q16465 := mm_leL (mm_le c14697) q16463 q16464
                have q16466 := mm_ltL (h := 322) (mm_nle c15908) q16464 q16465 (by decide)
                have q16467 := mm_leL (mm_le c14697) q16465 q16466
                have q16468 := mm_ltL (h := 321) (mm_nle c15908) q16466 q16467 (by decide)
                have q16469 := mm_leL (mm_le c14697) q16467 q16468
                have q16470 := mm_ltL (h := 320) (mm_nle c15908) q16468 q16469 (by decide)
                have q16471 := mm_leL (mm_le c14697) q16469 q16470
                have q16472 := mm_ltL (h := 319) (mm_nle c15908) q16470 q16471 (by decide)
                have q16473 := mm_leL (mm_le c14697) q16471 q16472
                have q16474 := mm_ltL (h := 318) (mm_nle c15908) q16472 q16473 (by decide)
                have q16475 := mm_leL (mm_le c14697) q16473 q16474
                have q16476 := mm_ltL (h := 317) (mm_nle c15908) q16474 q16475 (by decide)
                have q16477 := mm_leL (mm_le c14697) q16475 q16476
                have q16478 := mm_ltL (h := 316) (mm_nle c15908) q16476 q16477 (by decide)
                have q16479 := mm_leL (mm_le c14697) q16477 q16478
                have q16480 := mm_ltL (h := 315) (mm_nle c15908) q16478 q16479 (by decide)
                have q16481 := mm_leL (mm_le c14697) q16479 q16480
                have q16482 := mm_ltL (h := 314) (mm_nle c15908) q16480 q16481 (by decide)
                have q16483 := mm_leL (mm_le c14697) q16481 q16482
                have q16484 := mm_ltL (h := 313) (mm_nle c15908) q16482 q16483 (by decide)
                have q16485 := mm_leL (mm_le c14697) q16483 q16484
                have q16486 := mm_ltL (h := 312) (mm_nle c15908) q16484 q16485 (by decide)
                have q16487 := mm_leL (mm_le c14697) q16485 q16486
                have q16488 := mm_ltL (h := 311) (mm_nle c15908) q16486 q16487 (by decide)
                have q16489 := mm_leL (mm_le c14697) q16487 q16488
                have q16490 := mm_ltL (h := 310) (mm_nle c15908) q16488 q16489 (by decide)
                have q16491 := mm_leL (mm_le c14697) q16489 q16490
                have q16492 := mm_ltL (h := 309) (mm_nle c15908) q16490 q16491 (by decide)
                have q16493 := mm_leL (mm_le c14697) q16491 q16492
                have q16494 := mm_ltL (h := 308) (mm_nle c15908) q16492 q16493 (by decide)
                have q16495 := mm_leL (mm_le c14697) q16493 q16494
                have q16496 := mm_ltL (h := 307) (mm_nle c15908) q16494 q16495 (by decide)
                have q16497 := mm_leL (mm_le c14697) q16495 q16496
                have q16498 := mm_ltL (h := 306) (mm_nle c15908) q16496 q16497 (by decide)
                have q16499 := mm_leL (mm_le c14697) q16497 q16498
                have q16500 := mm_ltL (h := 305) (mm_nle c15908) q16498 q16499 (by decide)
                have q16501 := mm_leL (mm_le c14697) q16499 q16500
                have q16502 := mm_ltL (h := 304) (mm_nle c15908) q16500 q16501 (by decide)
                have q16503 := mm_leL (mm_le c14697) q16501 q16502
                have q16504 := mm_ltL (h := 303) (mm_nle c15908) q16502 q16503 (by decide)
                have q16505 := mm_leL (mm_le c14697) q16503 q16504
                have q16506 := mm_ltL (h := 302) (mm_nle c15908) q16504 q16505 (by decide)
                have q16507 := mm_leL (mm_le c14697) q16505 q16506
                have q16508 := mm_ltL (h := 301) (mm_nle c15908) q16506 q16507 (by decide)
                have q16509 := mm_leL (mm_le c14697) q16507 q16508
                have q16510 := mm_ltL (h := 300) (mm_nle c15908) q16508 q16509 (by decide)
                have q16511 := mm_leL (mm_le c14697) q16509 q16510
                have q16512 := mm_ltL (h := 299) (mm_nle c15908) q16510 q16511 (by decide)
                have q16513 := mm_leL (mm_le c14697) q16511 q16512
                have q16514 := mm_ltL (h := 298) (mm_nle c15908) q16512 q16513 (by decide)
                have q16515 := mm_leL (mm_le c14697) q16513 q16514
                have q16516 := mm_ltL (h := 297) (mm_nle c15908) q16514 q16515 (by decide)
                have q16517 := mm_leL (mm_le c14697) q16515 q16516
                have q16518 := mm_ltL (h := 296) (mm_nle c15908) q16516 q16517 (by decide)
                have q16519 := mm_leL (mm_le c14697) q16517 q16518
                have q16520 := mm_ltL (h := 295) (mm_nle c15908) q16518 q16519 (by decide)
                have q16521 := mm_leL (mm_le c14697) q16519 q16520
                have q16522 := mm_ltL (h := 294) (mm_nle c15908) q16520 q16521 (by decide)
                have q16523 := mm_leL (mm_le c14697) q16521 q16522
                have q16524 := mm_ltL (h := 293) (mm_nle c15908) q16522 q16523 (by decide)
                have q16525 := mm_leL (mm_le c14697) q16523 q16524
                have q16526 := mm_ltL (h := 292) (mm_nle c15908) q16524 q16525 (by decide)
                have q16527 := mm_leL (mm_le c14697) q16525 q16526
                have q16528 := mm_ltL (h := 291) (mm_nle c15908) q16526 q16527 (by decide)
                have q16529 := mm_leL (mm_le c14697) q16527 q16528
                have q16530 := mm_ltL (h := 290) (mm_nle c15908) q16528 q16529 (by decide)
                have q16531 := mm_leL (mm_le c14697) q16529 q16530
                have q16532 := mm_ltL (h := 289) (mm_nle c15908) q16530 q16531 (by decide)
                have q16533 := mm_leL (mm_le c14697) q16531 q16532
                have q16534 := mm_ltL (h := 288) (mm_nle c15908) q16532 q16533 (by decide)
                have q16535 := mm_leL (mm_le c14697) q16533 q16534
                have q16536 := mm_ltL (h := 287) (mm_nle c15908) q16534 q16535 (by decide)
                have q16537 := mm_leL (mm_le c14697) q16535 q16536
                have q16538 := mm_ltL (h := 286) (mm_nle c15908) q16536 q16537 (by decide)
                have q16539 := mm_leL (mm_le c14697) q16537 q16538
                have q16540 := mm_ltL (h := 285) (mm_nle c15908) q16538 q16539 (by decide)
                have q16541 := mm_leL (mm_le c14697) q16539 q16540
                have q16542 := mm_ltL (h := 284) (mm_nle c15908) q16540 q16541 (by decide)
                have q16543 := mm_leL (mm_le c14697) q16541 q16542
                have q16544 := mm_ltL (h := 283) (mm_nle c15908) q16542 q16543 (by decide)
                have q16545 := mm_leL (mm_le c14697) q16543 q16544
                have q16546 := mm_ltL (h := 282) (mm_nle c15908) q16544 q16545 (by decide)
                have q16547 := mm_leL (mm_le c14697) q16545 q16546
                have q16548 := mm_ltL (h := 281) (mm_nle c15908) q16546 q16547 (by decide)
                have q16549 := mm_leL (mm_le c14697) q16547 q16548
                have q16550 := mm_ltL (h := 280) (mm_nle c15908) q16548 q16549 (by decide)
                have q16551 := mm_leL (mm_le c14697) q16549 q16550
                have q16552 := mm_ltL (h := 279) (mm_nle c15908) q16550 q16551 (by decide)
                have q16553 := mm_leL (mm_le c14697) q16551 q16552
                have q16554 := mm_ltL (h := 278) (mm_nle c15908) q16552 q16553 (by decide)
                have q16555 := mm_leL (mm_le c14697) q16553 q16554
                have q16556 := mm_ltL (h := 277) (mm_nle c15908) q16554 q16555 (by decide)
                have q16557 := mm_leL (mm_le c14697) q16555 q16556
                have q16558 := mm_ltL (h := 276) (mm_nle c15908) q16556 q16557 (by decide)
                have q16559 := mm_leL (mm_le c14697) q16557 q16558
                have q16560 := mm_ltL (h := 275) (mm_nle c15908) q16558 q16559 (by decide)
                have q16561 := mm_leL (mm_le c14697) q16559 q16560
                have q16562 := mm_ltL (h := 274) (mm_nle c15908) q16560 q16561 (by decide)
                have q16563 := mm_leL (mm_le c14697) q16561 q16562
                have q16564 := mm_ltL (h := 273) (mm_nle c15908) q16562 q16563 (by decide)
                have q16565 := mm_leL (mm_le c14697) q16563 q16564
                have q16566 := mm_ltL (h := 272) (mm_nle c15908) q16564 q16565 (by decide)
                have q16567 := mm_leL (mm_le c14697) q16565 q16566
                have q16568 := mm_ltL (h := 271) (mm_nle c15908) q16566 q16567 (by decide)
                have q16569 := mm_leL (mm_le c14697) q16567 q16568
                have q16570 := mm_ltL (h := 270) (mm_nle c15908) q16568 q16569 (by decide)
                have q16571 := mm_leL (mm_le c14697) q16569 q16570
                have q16572 := mm_ltL (h := 269) (mm_nle c15908) q16570 q16571 (by decide)
                have q16573 := mm_leL (mm_le c14697) q16571 q16572
                have q16574 := mm_ltL (h := 268) (mm_nle c15908) q16572 q16573 (by decide)
                have q16575 := mm_leL (mm_le c14697) q16573 q16574
                have q16576 := mm_ltL (h := 267) (mm_nle c15908) q16574 q16575 (by decide)
                have q16577 := mm_leL (mm_le c14697) q16575 q16576
                have q16578 := mm_ltL (h := 266) (mm_nle c15908) q16576 q16577 (by decide)
                have q16579 := mm_leL (mm_le c14697) q16577 q16578
                have q16580 := mm_ltL (h := 265) (mm_nle c15908) q16578 q16579 (by decide)
                have q16581 := mm_leL (mm_le c14697) q16579 q16580
                have q16582 := mm_ltL (h := 264) (mm_nle c15908) q16580 q16581 (by decide)
                have q16583 := mm_leL (mm_le c14697) q16581 q16582
                have q16584 := mm_ltL (h := 263) (mm_nle c15908) q16582 q16583 (by decide)
                have q16585 := mm_leL (mm_le c14697) q16583 q16584
                have q16586 := mm_ltL (h := 262) (mm_nle c15908) q16584 q16585 (by decide)
                have q16587 := mm_leL (mm_le c14697) q16585 q16586
                have q16588 := mm_ltL (h := 261) (mm_nle c15908) q16586 q16587 (by decide)
                have q16589 := mm_leL (mm_le c14697) q16587 q16588
                have q16590 := mm_ltL (h := 260) (mm_nle c15908) q16588 q16589 (by decide)
                have q16591 := mm_leL (mm_le c14697) q16589 q16590
                have q16592 := mm_ltL (h := 259) (mm_nle c15908) q16590 q16591 (by decide)
                have q16593 := mm_leL (mm_le c14697) q16591 q16592
                have q16594 := mm_ltL (h := 258) (mm_nle c15908) q16592 q16593 (by decide)
                have q16595 := mm_leL (mm_le c14697) q16593 q16594
                have q16596 := mm_ltL (h := 257) (mm_nle c15908) q16594 q16595 (by decide)
                have q16597 := mm_leL (mm_le c14697) q16595 q16596
                have q16598 := mm_ltL (h := 256) (mm_nle c15908) q16596 q16597 (by decide)
                have q16599 := mm_leL (mm_le c14697) q16597 q16598
                have q16600 := mm_ltL (h := 255) (mm_nle c15908) q16598 q16599 (by decide)
                have q16601 := mm_leL (mm_le c14697) q16599 q16600
                have q16602 := mm_ltL (h := 254) (mm_nle c15908) q16600 q16601 (by decide)
                have q16603 := mm_leL (mm_le c14697) q16601 q16602
                have q16604 := mm_ltL (h := 253) (mm_nle c15908) q16602 q16603 (by decide)
                have q16605 := mm_leL (mm_le c14697) q16603 q16604
                have q16606 := mm_ltL (h := 252) (mm_nle c15908) q16604 q16605 (by decide)
                have q16607 := mm_leL (mm_le c14697) q16605 q16606
                have q16608 := mm_ltL (h := 251) (mm_nle c15908) q16606 q16607 (by decide)
                have q16609 := mm_leL (mm_le c14697) q16607 q16608
                have q16610 := mm_ltL (h := 250) (mm_nle c15908) q16608 q16609 (by decide)
                have q16611 := mm_leL (mm_le c14697) q16609 q16610
                have q16612 := mm_ltL (h := 249) (mm_nle c15908) q16610 q16611 (by decide)
                have q16613 := mm_leL (mm_le c14697) q16611 q16612
                have q16614 := mm_ltL (h := 248) (mm_nle c15908) q16612 q16613 (by decide)
                have q16615 := mm_leL (mm_le c14697) q16613 q16614
                have q16616 := mm_ltL (h := 247) (mm_nle c15908) q16614 q16615 (by decide)
                have q16617 := mm_leL (mm_le c14697) q16615 q16616
                have q16618 := mm_ltL (h := 246) (mm_nle c15908) q16616 q16617 (by decide)
                have q16619 := mm_leL (mm_le c14697) q16617 q16618
                have q16620 := mm_ltL (h := 245) (mm_nle c15908) q16618 q16619 (by decide)
                have q16621 := mm_leL (mm_le c14697) q16619 q16620
                have q16622 := mm_ltL (h := 244) (mm_nle c15908) q16620 q16621 (by decide)
                have q16623 := mm_leL (mm_le c14697) q16621 q16622
                have q16624 := mm_ltL (h := 243) (mm_nle c15908) q16622 q16623 (by decide)
                have q16625 := mm_leL (mm_le c14697) q16623 q16624
                have q16626 := mm_ltL (h := 242) (mm_nle c15908) q16624 q16625 (by decide)
                have q16627 := mm_leL (mm_le c14697) q16625 q16626
                have q16628 := mm_ltL (h := 241) (mm_nle c15908) q16626 q16627 (by decide)
                have q16629 := mm_leL (mm_le c14697) q16627 q16628
                have q16630 := mm_ltL (h := 240) (mm_nle c15908) q16628 q16629 (by decide)
                have q16631 := mm_leL (mm_le c14697) q16629 q16630
                have q16632 := mm_ltL (h := 239) (mm_nle c15908) q16630 q16631 (by decide)
                have q16633 := mm_leL (mm_le c14697) q16631 q16632
                have q16634 := mm_ltL (h := 238) (mm_nle c15908) q16632 q16633 (by decide)
                have q16635 := mm_leL (mm_le c14697) q16633 q16634
                have q16636 := mm_ltL (h := 237) (mm_nle c15908) q16634 q16635 (by decide)
                have q16637 := mm_leL (mm_le c14697) q16635 q16636
                have q16638 := mm_ltL (h := 236) (mm_nle c15908) q16636 q16637 (by decide)
                have q16639 := mm_leL (mm_le c14697) q16637 q16638
                have q16640 := mm_ltL (h := 235) (mm_nle c15908) q16638 q16639 (by decide)
                have q16641 := mm_leL (mm_le c14697) q16639 q16640
                have q16642 := mm_ltL (h := 234) (mm_nle c15908) q16640 q16641 (by decide)
                have q16643 := mm_leL (mm_le c14697) q16641 q16642
                have q16644 := mm_ltL (h := 233) (mm_nle c15908) q16642 q16643 (by decide)
                have q16645 := mm_leL (mm_le c14697) q16643 q16644
                have q16646 := mm_ltL (h := 232) (mm_nle c15908) q16644 q16645 (by decide)
                have q16647 := mm_leL (mm_le c14697) q16645 q16646
                have q16648 := mm_ltL (h := 231) (mm_nle c15908) q16646 q16647 (by decide)
                have q16649 := mm_leL (mm_le c14697) q16647 q16648
                have q16650 := mm_ltL (h := 230) (mm_nle c15908) q16648 q16649 (by decide)
                have q16651 := mm_leL (mm_le c14697) q16649 q16650
                have q16652 := mm_ltL (h := 229) (mm_nle c15908) q16650 q16651 (by decide)
                have q16653 := mm_leL (mm_le c14697) q16651 q16652
                have q16654 := mm_ltL (h := 228) (mm_nle c15908) q16652 q16653 (by decide)
                have q16655 := mm_leL (mm_le c14697) q16653 q16654
                have q16656 := mm_ltL (h := 227) (mm_nle c15908) q16654 q16655 (by decide)
                have q16657 := mm_leL (mm_le c14697) q16655 q16656
                have q16658 := mm_ltL (h := 226) (mm_nle c15908) q16656 q16657 (by decide)
                have q16659 := mm_leL (mm_le c14697) q16657 q16658
                have q16660 := mm_ltL (h := 225) (mm_nle c15908) q16658 q16659 (by decide)
                have q16661 := mm_leL (mm_le c14697) q16659 q16660
                have q16662 := mm_ltL (h := 224) (mm_nle c15908) q16660 q16661 (by decide)
                have q16663 := mm_leL (mm_le c14697) q16661 q16662
                have q16664 := mm_ltL (h := 223) (mm_nle c15908) q16662 q16663 (by decide)
                have q16665 := mm_leL (mm_le c14697) q16663 q16664
                have q16666 := mm_ltL (h := 222) (mm_nle c15908) q16664 q16665 (by decide)
                have q16667 := mm_leL (mm_le c14697) q16665 q16666
                have q16668 := mm_ltL (h := 221) (mm_nle c15908) q16666 q16667 (by decide)
                have q16669 := mm_leL (mm_le c14697) q16667 q16668
                have q16670 := mm_ltL (h := 220) (mm_nle c15908) q16668 q16669 (by decide)
                have q16671 := mm_leL (mm_le c14697) q16669 q16670
                have q16672 := mm_ltL (h := 219) (mm_nle c15908) q16670 q16671 (by decide)
                have q16673 := mm_leL (mm_le c14697) q16671 q16672
                have q16674 := mm_ltL (h := 218) (mm_nle c15908) q16672 q16673 (by decide)
                have q16675 := mm_leL (mm_le c14697) q16673 q16674
                have q16676 := mm_ltL (h := 217) (mm_nle c15908) q16674 q16675 (by decide)
                have q16677 := mm_leL (mm_le c14697) q16675 q16676
                have q16678 := mm_ltL (h := 216) (mm_nle c15908) q16676 q16677 (by decide)
                have q16679 := mm_leL (mm_le c14697) q16677 q16678
                have q16680 := mm_ltL (h := 215) (mm_nle c15908) q16678 q16679 (by decide)
                have q16681 := mm_leL (mm_le c14697) q16679 q16680
                have q16682 := mm_ltL (h := 214) (mm_nle c15908) q16680 q16681 (by decide)
                have q16683 := mm_leL (mm_le c14697) q16681 q16682
                have q16684 := mm_ltL (h := 213) (mm_nle c15908) q16682 q16683 (by decide)
                have q16685 := mm_leL (mm_le c14697) q16683 q16684
                have q16686 := mm_ltL (h := 212) (mm_nle c15908) q16684 q16685 (by decide)
                have q16687 := mm_leL (mm_le c14697) q16685 q16686
                have q16688 := mm_ltL (h := 211) (mm_nle c15908) q16686 q16687 (by decide)
                have q16689 := mm_leL (mm_le c14697) q16687 q16688
                have q16690 := mm_ltL (h := 210) (mm_nle c15908) q16688 q16689 (by decide)
                have q16691 := mm_leL (mm_le c14697) q16689 q16690
                have q16692 := mm_ltL (h := 209) (mm_nle c15908) q16690 q16691 (by decide)
                have q16693 := mm_leL (mm_le c14697) q16691 q16692
                have q16694 := mm_ltL (h := 208) (mm_nle c15908) q16692 q16693 (by decide)
                have q16695 := mm_leL (mm_le c14697) q16693 q16694
                have q16696 := mm_ltL (h := 207) (mm_nle c15908) q16694 q16695 (by decide)
                have q16697 := mm_leL (mm_le c14697) q16695 q16696
                have q16698 := mm_ltL (h := 206) (mm_nle c15908) q16696 q16697 (by decide)
                have q16699 := mm_leL (mm_le c14697) q16697 q16698
                have q16700 := mm_ltL (h := 205) (mm_nle c15908) q16698 q16699 (by decide)
                have q16701 := mm_leL (mm_le c14697) q16699 q16700
                have q16702 := mm_ltL (h := 204) (mm_nle c15908) q16700 q16701 (by decide)
                have q16703 := mm_leL (mm_le c14697) q16701 q16702
                have q16704 := mm_ltL (h := 203) (mm_nle c15908) q16702 q16703 (by decide)
                have q16705 := mm_leL (mm_le c14697) q16703 q16704
                have q16706 := mm_ltL (h := 202) (mm_nle c15908) q16704 q16705 (by decide)
                have q16707 := mm_leL (mm_le c14697) q16705 q16706
                have q16708 := mm_ltL (h := 201) (mm_nle c15908) q16706 q16707 (by decide)
                have q16709 := mm_leL (mm_le c14697) q16707 q16708
                have q16710 := mm_ltL (h := 200) (mm_nle c15908) q16708 q16709 (by decide)
                have q16711 := mm_leL (mm_le c14697) q16709 q16710
                have q16712 := mm_ltL (h := 199) (mm_nle c15908) q16710 q16711 (by decide)
                have q16713 := mm_leL (mm_le c14697) q16711 q16712
                have q16714 := mm_ltL (h := 198) (mm_nle c15908) q16712 q16713 (by decide)
                have q16715 := mm_leL (mm_le c14697) q16713 q16714
                have q16716 := mm_ltL (h := 197) (mm_nle c15908) q16714 q16715 (by decide)
                have q16717 := mm_leL (mm_le c14697) q16715 q16716
                have q16718 := mm_ltL (h := 196) (mm_nle c15908) q16716 q16717 (by decide)
                have q16719 := mm_leL (mm_le c14697) q16717 q16718
                have q16720 := mm_ltL (h := 195) (mm_nle c15908) q16718 q16719 (by decide)
                have q16721 := mm_leL (mm_le c14697) q16719 q16720
                have q16722 := mm_ltL (h := 194) (mm_nle c15908) q16720 q16721 (by decide)
                have q16723 := mm_leL (mm_le c14697) q16721 q16722
                have q16724 := mm_ltL (h := 193) (mm_nle c15908) q16722 q16723 (by decide)
                have q16725 := mm_leL (mm_le c14697) q16723 q16724
                have q16726 := mm_ltL (h := 192) (mm_nle c15908) q16724 q16725 (by decide)
                have q16727 := mm_leL (mm_le c14697) q16725 q16726
                have q16728 := mm_ltL (h := 191) (mm_nle c15908) q16726 q16727 (by decide)
                have q16729 := mm_leL (mm_le c14697) q16727 q16728
                have q16730 := mm_ltL (h := 190) (mm_nle c15908) q16728 q16729 (by decide)
                have q16731 := mm_leL (mm_le c14697) q16729 q16730
                have q16732 := mm_ltL (h := 189) (mm_nle c15908) q16730 q16731 (by decide)
                have q16733 := mm_leL (mm_le c14697) q16731 q16732
                have q16734 := mm_ltL (h := 188) (mm_nle c15908) q16732 q16733 (by decide)
                have q16735 := mm_leL (mm_le c14697) q16733 q16734
                have q16736 := mm_ltL (h := 187) (mm_nle c15908) q16734 q16735 (by decide)
                have q16737 := mm_leL (mm_le c14697) q16735 q16736
                have q16738 := mm_ltL (h := 186) (mm_nle c15908) q16736 q16737 (by decide)
                have q16739 := mm_leL (mm_le c14697) q16737 q16738
                have q16740 := mm_ltL (h := 185) (mm_nle c15908) q16738 q16739 (by decide)
                have q16741 := mm_leL (mm_le c14697) q16739 q16740
                have q16742 := mm_ltL (h := 184) (mm_nle c15908) q16740 q16741 (by decide)
                have q16743 := mm_leL (mm_le c14697) q16741 q16742
                have q16744 := mm_ltL (h := 183) (mm_nle c15908) q16742 q16743 (by decide)
                have q16745 := mm_leL (mm_le c14697) q16743 q16744
                have q16746 := mm_ltL (h := 182) (mm_nle c15908) q16744 q16745 (by decide)
                have q16747 := mm_leL (mm_le c14697) q16745 q16746
                have q16748 := mm_ltL (h := 181) (mm_nle c15908) q16746 q16747 (by decide)
                have q16749 := mm_leL (mm_le c14697) q16747 q16748
                have q16750 := mm_ltL (h := 180) (mm_nle c15908) q16748 q16749 (by decide)
                have q16751 := mm_leL (mm_le c14697) q16749 q16750
                have q16752 := mm_ltL (h := 179) (mm_nle c15908) q16750 q16751 (by decide)
                have q16753 := mm_leL (mm_le c14697) q16751 q16752
                have q16754 := mm_ltL (h := 178) (mm_nle c15908) q16752 q16753 (by decide)
                have q16755 := mm_leL (mm_le c14697) q16753 q16754
                have q16756 := mm_ltL (h := 177) (mm_nle c15908) q16754 q16755 (by decide)
                have q16757 := mm_leL (mm_le c14697) q16755 q16756
                have q16758 := mm_ltL (h := 176) (mm_nle c15908) q16756 q16757 (by decide)
                have q16759 := mm_leL (mm_le c14697) q16757 q16758
                have q16760 := mm_ltL (h := 175) (mm_nle c15908) q16758 q16759 (by decide)
                have q16761 := mm_leL (mm_le c14697) q16759 q16760
                have q16762 := mm_ltL (h := 174) (mm_nle c15908) q16760 q16761 (by decide)
                have q16763 := mm_leL (mm_le c14697) q16761 q16762
                have q16764 := mm_ltL (h := 173) (mm_nle c15908) q16762 q16763 (by decide)
                have q16765 := mm_leL (mm_le c14697) q16763 q16764
                have q16766 := mm_ltL (h := 172) (mm_nle c15908) q16764 q16765 (by decide)
                have q16767 := mm_leL (mm_le c14697) q16765 q16766
                have q16768 := mm_ltL (h := 171) (mm_nle c15908) q16766 q16767 (by decide)
                have q16769 := mm_leL (mm_le c14697) q16767 q16768
                have q16770 := mm_ltL (h := 170) (mm_nle c15908) q16768 q16769 (by decide)
                have q16771 := mm_leL (mm_le c14697) q16769 q16770
                have q16772 := mm_ltL (h := 169) (mm_nle c15908) q16770 q16771 (by decide)
                have q16773 := mm_leL (mm_le c14697) q16771 q16772
                have q16774 := mm_ltL (h := 168) (mm_nle c15908) q16772 q16773 (by decide)
                have q16775 := mm_leL (mm_le c14697) q16773 q16774
                have q16776 := mm_ltL (h := 167) (mm_nle c15908) q16774 q16775 (by decide)
                have q16777 := mm_leL (mm_le c14697) q16775 q16776
                have q16778 := mm_ltL (h := 166) (mm_nle c15908) q16776 q16777 (by decide)
                have q16779 := mm_leL (mm_le c14697) q16777 q16778
                have q16780 := mm_ltL (h := 165) (mm_nle c15908) q16778 q16779 (by decide)
                have q16781 := mm_leL (mm_le c14697) q16779 q16780
                have q16782 := mm_ltL (h := 164) (mm_nle c15908) q16780 q16781 (by decide)
                have q16783 := mm_leL (mm_le c14697) q16781 q16782
                have q16784 := mm_ltL (h := 163) (mm_nle c15908) q16782 q16783 (by decide)
                have q16785 := mm_leL (mm_le c14697) q16783 q16784
                have q16786 := mm_ltL (h := 162) (mm_nle c15908) q16784 q16785 (by decide)
                have q16787 := mm_leL (mm_le c14697) q16785 q16786
                have q16788 := mm_ltL (h := 161) (mm_nle c15908) q16786 q16787 (by decide)
                have q16789 := mm_leL (mm_le c14697) q16787 q16788
                have q16790 := mm_ltL (h := 160) (mm_nle c15908) q16788 q16789 (by decide)
                have q16791 := mm_leL (mm_le c14697) q16789 q16790
                have q16792 := mm_ltL (h := 159) (mm_nle c15908) q16790 q16791 (by decide)
                have q16793 := mm_leL (mm_le c14697) q16791 q16792
                have q16794 := mm_ltL (h := 158) (mm_nle c15908) q16792 q16793 (by decide)
                have q16795 := mm_leL (mm_le c14697) q16793 q16794
                have q16796 := mm_ltL (h := 157) (mm_nle c15908) q16794 q16795 (by decide)
                have q16797 := mm_leL (mm_le c14697) q16795 q16796
                have q16798 := mm_ltL (h := 156) (mm_nle c15908) q16796 q16797 (by decide)
                have q16799 := mm_leL (mm_le c14697) q16797 q16798
                have q16800 := mm_ltL (h := 155) (mm_nle c15908) q16798 q16799 (by decide)
                have q16801 := mm_leL (mm_le c14697) q16799 q16800
                have q16802 := mm_ltL (h := 154) (mm_nle c15908) q16800 q16801 (by decide)
                have q16803 := mm_leL (mm_le c14697) q16801 q16802
                have q16804 := mm_ltL (h := 153) (mm_nle c15908) q16802 q16803 (by decide)
                have q16805 := mm_leL (mm_le c14697) q16803 q16804
                have q16806 := mm_ltL (h := 152) (mm_nle c15908) q16804 q16805 (by decide)
                have q16807 := mm_leL (mm_le c14697) q16805 q16806
                have q16808 := mm_ltL (h := 151) (mm_nle c15908) q16806 q16807 (by decide)
                have q16809 := mm_leL (mm_le c14697) q16807 q16808
                have q16810 := mm_ltL (h := 150) (mm_nle c15908) q16808 q16809 (by decide)
                have q16811 := mm_leL (mm_le c14697) q16809 q16810
                have q16812 := mm_ltL (h := 149) (mm_nle c15908) q16810 q16811 (by decide)
                have q16813 := mm_leL (mm_le c14697) q16811 q16812
                have q16814 := mm_ltL (h := 148) (mm_nle c15908) q16812 q16813 (by decide)
                have q16815 := mm_leL (mm_le c14697) q16813 q16814
                have q16816 := mm_ltL (h := 147) (mm_nle c15908) q16814 q16815 (by decide)
                have q16817 := mm_leL (mm_le c14697) q16815 q16816
                have q16818 := mm_ltL (h := 146) (mm_nle c15908) q16816 q16817 (by decide)
                have q16819 := mm_leL (mm_le c14697) q16817 q16818
                have q16820 := mm_ltL (h := 145) (mm_nle c15908) q16818 q16819 (by decide)
                have q16821 := mm_leL (mm_le c14697) q16819 q16820
                have q16822 := mm_ltL (h := 144) (mm_nle c15908) q16820 q16821 (by decide)
                have q16823 := mm_leL (mm_le c14697) q16821 q16822
                have q16824 := mm_ltL (h := 143) (mm_nle c15908) q16822 q16823 (by decide)
                have q16825 := mm_leL (mm_le c14697) q16823 q16824
                have q16826 := mm_ltL (h := 142) (mm_nle c15908) q16824 q16825 (by decide)
                have q16827 := mm_leL (mm_le c14697) q16825 q16826
                have q16828 := mm_ltL (h := 141) (mm_nle c15908) q16826 q16827 (by decide)
                have q16829 := mm_leL (mm_le c14697) q16827 q16828
                have q16830 := mm_ltL (h := 140) (mm_nle c15908) q16828 q16829 (by decide)
                have q16831 := mm_leL (mm_le c14697) q16829 q16830
                have q16832 := mm_ltL (h := 139) (mm_nle c15908) q16830 q16831 (by decide)
                have q16833 := mm_leL (mm_le c14697) q16831 q16832
                have q16834 := mm_ltL (h := 138) (mm_nle c15908) q16832 q16833 (by decide)
                have q16835 := mm_leL (mm_le c14697) q16833 q16834
                have q16836 := mm_ltL (h := 137) (mm_nle c15908) q16834 q16835 (by decide)
                have q16837 := mm_leL (mm_le c14697) q16835 q16836
                have q16838 := mm_ltL (h := 136) (mm_nle c15908) q16836 q16837 (by decide)
                have q16839 := mm_leL (mm_le c14697) q16837 q16838
                have q16840 := mm_ltL (h := 135) (mm_nle c15908) q16838 q16839 (by decide)
                have q16841 := mm_leL (mm_le c14697) q16839 q16840
                have q16842 := mm_ltL (h := 134) (mm_nle c15908) q16840 q16841 (by decide)
                have q16843 := mm_leL (mm_le c14697) q16841 q16842
                have q16844 := mm_ltL (h := 133) (mm_nle c15908) q16842 q16843 (by decide)
                have q16845 := mm_leL (mm_le c14697) q16843 q16844
                have q16846 := mm_ltL (h := 132) (mm_nle c15908) q16844 q16845 (by decide)
                have q16847 := mm_leL (mm_le c14697) q16845 q16846
                have q16848 := mm_ltL (h := 131) (mm_nle c15908) q16846 q16847 (by decide)
                have q16849 := mm_leL (mm_le c14697) q16847 q16848
                have q16850 := mm_ltL (h := 130) (mm_nle c15908) q16848 q16849 (by decide)
                have q16851 := mm_leL (mm_le c14697) q16849 q16850
                have q16852 := mm_ltL (h := 129) (mm_nle c15908) q16850 q16851 (by decide)
                have q16853 := mm_leL (mm_le c14697) q16851 q16852
                have q16854 := mm_ltL (h := 128) (mm_nle c15908) q16852 q16853 (by decide)
                have q16855 := mm_leL (mm_le c14697) q16853 q16854
                have q16856 := mm_ltL (h := 127) (mm_nle c15908) q16854 q16855 (by decide)
                have q16857 := mm_leL (mm_le c14697) q16855 q16856
                have q16858 := mm_ltL (h := 126) (mm_nle c15908) q16856 q16857 (by decide)
                have q16859 := mm_leL (mm_le c14697) q16857 q16858
                have q16860 := mm_ltL (h := 125) (mm_nle c15908) q16858 q16859 (by decide)
                have q16861 := mm_leL (mm_le c14697) q16859 q16860
                have q16862 := mm_ltL (h := 124) (mm_nle c15908) q16860 q16861 (by decide)
                have q16863 := mm_leL (mm_le c14697) q16861 q16862
                have q16864 := mm_ltL (h := 123) (mm_nle c15908) q16862 q16863 (by decide)
                have q16865 := mm_leL (mm_le c14697) q16863 q16864
                have q16866 := mm_ltL (h := 122) (mm_nle c15908) q16864 q16865 (by decide)
                have q16867 := mm_leL (mm_le c14697) q16865 q16866
                have q16868 := mm_ltL (h := 121) (mm_nle c15908) q16866 q16867 (by decide)
                have q16869 := mm_leL (mm_le c14697) q16867 q16868
                have q16870 := mm_ltL (h := 120) (mm_nle c15908) q16868 q16869 (by decide)
                have q16871 := mm_leL (mm_le c14697) q16869 q16870
                have q16872 := mm_ltL (h := 119) (mm_nle c15908) q16870 q16871 (by decide)
                have q16873 := mm_leL (mm_le c14697) q16871 q16872
                have q16874 := mm_ltL (h := 118) (mm_nle c15908) q16872 q16873 (by decide)
                have q16875 := mm_leL (mm_le c14697) q16873 q16874
                have q16876 := mm_ltL (h := 117) (mm_nle c15908) q16874 q16875 (by decide)
                have q16877 := mm_leL (mm_le c14697) q16875 q16876
                have q16878 := mm_ltL (h := 116) (mm_nle c15908) q16876 q16877 (by decide)
                have q16879 := mm_leL (mm_le c14697) q16877 q16878
                have q16880 := mm_ltL (h := 115) (mm_nle c15908) q16878 q16879 (by decide)
                have q16881 := mm_leL (mm_le c14697) q16879 q16880
                have q16882 := mm_ltL (h := 114) (mm_nle c15908) q16880 q16881 (by decide)
                have q16883 := mm_leL (mm_le c14697) q16881 q16882
                have q16884 := mm_ltL (h := 113) (mm_nle c15908) q16882 q16883 (by decide)
                have q16885 := mm_leL (mm_le c14697) q16883 q16884
                have q16886 := mm_ltL (h := 112) (mm_nle c15908) q16884 q16885 (by decide)
                have q16887 := mm_leL (mm_le c14697) q16885 q16886
                have q16888 := mm_ltL (h := 111) (mm_nle c15908) q16886 q16887 (by decide)
                have q16889 := mm_leL (mm_le c14697) q16887 q16888
                have q16890 := mm_ltL (h := 110) (mm_nle c15908) q16888 q16889 (by decide)
                have q16891 := mm_leL (mm_le c14697) q16889 q16890
                have q16892 := mm_ltL (h := 109) (mm_nle c15908) q16890 q16891 (by decide)
                have q16893 := mm_leL (mm_le c14697) q16891 q16892
                have q16894 := mm_ltL (h := 108) (mm_nle c15908) q16892 q16893 (by decide)
                have q16895 := mm_leL (mm_le c14697) q16893 q16894
                have q16896 := mm_ltL (h := 107) (mm_nle c15908) q16894 q16895 (by decide)
                have q16897 := mm_leL (mm_le c14697) q16895 q16896
                have q16898 := mm_ltL (h := 106) (mm_nle c15908) q16896 q16897 (by decide)
                have q16899 := mm_leL (mm_le c14697) q16897 q16898
                have q16900 := mm_ltL (h := 105) (mm_nle c15908) q16898 q16899 (by decide)
                have q16901 := mm_leL (mm_le c14697) q16899 q16900
                have q16902 := mm_ltL (h := 104) (mm_nle c15908) q16900 q16901 (by decide)
                have q16903 := mm_leL (mm_le c14697) q16901 q16902
                have q16904 := mm_ltL (h := 103) (mm_nle c15908) q16902 q16903 (by decide)
                have q16905 := mm_leL (mm_le c14697) q16903 q16904
                have q16906 := mm_ltL (h := 102) (mm_nle c15908) q16904 q16905 (by decide)
                have q16907 := mm_leL (mm_le c14697) q16905 q16906
                have q16908 := mm_ltL (h := 101) (mm_nle c15908) q16906 q16907 (by decide)
                have q16909 := mm_leL (mm_le c14697) q16907 q16908
                have q16910 := mm_ltL (h := 100) (mm_nle c15908) q16908 q16909 (by decide)
                have q16911 := mm_leL (mm_le c14697) q16909 q16910
                have q16912 := mm_ltL (h := 99) (mm_nle c15908) q16910 q16911 (by decide)
                have q16913 := mm_leL (mm_le c14697) q16911 q16912
                have q16914 := mm_ltL (h := 98) (mm_nle c15908) q16912 q16913 (by decide)
                have q16915 := mm_leL (mm_le c14697) q16913 q16914
                have q16916 := mm_ltL (h := 97) (mm_nle c15908) q16914 q16915 (by decide)
                have q16917 := mm_leL (mm_le c14697) q16915 q16916
                have q16918 := mm_ltL (h := 96) (mm_nle c15908) q16916 q16917 (by decide)
                have q16919 := mm_leL (mm_le c14697) q16917 q16918
                have q16920 := mm_ltL (h := 95) (mm_nle c15908) q16918 q16919 (by decide)
                have q16921 := mm_leL (mm_le c14697) q16919 q16920
                have q16922 := mm_ltL (h := 94) (mm_nle c15908) q16920 q16921 (by decide)
                have q16923 := mm_leL (mm_le c14697) q16921 q16922
                have q16924 := mm_ltL (h := 93) (mm_nle c15908) q16922 q16923 (by decide)
                have q16925 := mm_leL (mm_le c14697) q16923 q16924
                have q16926 := mm_ltL (h := 92) (mm_nle c15908) q16924 q16925 (by decide)
                have q16927 := mm_leL (mm_le c14697) q16925 q16926
                have q16928 := mm_ltL (h := 91) (mm_nle c15908) q16926 q16927 (by decide)
                have q16929 := mm_leL (mm_le c14697) q16927 q16928
                have q16930 := mm_ltL (h := 90) (mm_nle c15908) q16928 q16929 (by decide)
                have q16931 := mm_leL (mm_le c14697) q16929 q16930
                have q16932 := mm_ltL (h := 89) (mm_nle c15908) q16930 q16931 (by decide)
                have q16933 := mm_leL (mm_le c14697) q16931 q16932
                have q16934 := mm_ltL (h := 88) (mm_nle c15908) q16932 q16933 (by decide)
                have q16935 := mm_leL (mm_le c14697) q16933 q16934
                have q16936 := mm_ltL (h := 87) (mm_nle c15908) q16934 q16935 (by decide)
                have q16937 := mm_leL (mm_le c14697) q16935 q16936
                have q16938 := mm_ltL (h := 86) (mm_nle c15908) q16936 q16937 (by decide)
                have q16939 := mm_leL (mm_le c14697) q16937 q16938
                have q16940 := mm_ltL (h := 85) (mm_nle c15908) q16938 q16939 (by decide)
                have q16941 := mm_leL (mm_le c14697) q16939 q16940
                have q16942 := mm_ltL (h := 84) (mm_nle c15908) q16940 q16941 (by decide)
                have q16943 := mm_leL (mm_le c14697) q16941 q16942
                have q16944 := mm_ltL (h := 83) (mm_nle c15908) q16942 q16943 (by decide)
                have q16945 := mm_leL (mm_le c14697) q16943 q16944
                have q16946 := mm_ltL (h := 82) (mm_nle c15908) q16944 q16945 (by decide)
                have q16947 := mm_leL (mm_le c14697) q16945 q16946
                have q16948 := mm_ltL (h := 81) (mm_nle c15908) q16946 q16947 (by decide)
                have q16949 := mm_leL (mm_le c14697) q16947 q16948
                have q16950 := mm_ltL (h := 80) (mm_nle c15908) q16948 q16949 (by decide)
                have q16951 := mm_leL (mm_le c14697) q16949 q16950
                have q16952 := mm_ltL (h := 79) (mm_nle c15908) q16950 q16951 (by decide)
                have q16953 := mm_leL (mm_le c14697) q16951 q16952
                have q16954 := mm_ltL (h := 78) (mm_nle c15908) q16952 q16953 (by decide)
                have q16955 := mm_leL (mm_le c14697) q16953 q16954
                have q16956 := mm_ltL (h := 77) (mm_nle c15908) q16954 q16955 (by decide)
                have q16957 := mm_leL (mm_le c14697) q16955 q16956
                have q16958 := mm_ltL (h := 76) (mm_nle c15908) q16956 q16957 (by decide)
                have q16959 := mm_leL (mm_le c14697) q16957 q16958
                have q16960 := mm_ltL (h := 75) (mm_nle c15908) q16958 q16959 (by decide)
                have q16961 := mm_leL (mm_le c14697) q16959 q16960
                have q16962 := mm_ltL (h := 74) (mm_nle c15908) q16960 q16961 (by decide)
                have q16963 := mm_leL (mm_le c14697) q16961 q16962
                have q16964 := mm_ltL (h := 73) (mm_nle c15908) q16962 q16963 (by decide)
                have q16965 := mm_leL (mm_le c14697) q16963 q16964
                have q16966 := mm_ltL (h := 72) (mm_nle c15908) q16964 q16965 (by decide)
                have q16967 := mm_leL (mm_le c14697) q16965 q16966
                have q16968 := mm_ltL (h := 71) (mm_nle c15908) q16966 q16967 (by decide)
                have q16969 := mm_leL (mm_le c14697) q16967 q16968
                have q16970 := mm_ltL (h := 70) (mm_nle c15908) q16968 q16969 (by decide)
                have q16971 := mm_leL (mm_le c14697) q16969 q16970
                have q16972 := mm_ltL (h := 69) (mm_nle c15908) q16970 q16971 (by decide)
                have q16973 := mm_leL (mm_le c14697) q16971 q16972
                have q16974 := mm_ltL (h := 68) (mm_nle c15908) q16972 q16973 (by decide)
                have q16975 := mm_leL (mm_le c14697) q16973 q16974
                have q16976 := mm_ltL (h := 67) (mm_nle c15908) q16974 q16975 (by decide)
                have q16977 := mm_leL (mm_le c14697) q16975 q16976
                have q16978 := mm_ltL (h := 66) (mm_nle c15908) q16976 q16977 (by decide)
                have q16979 := mm_leL (mm_le c14697) q16977 q16978
                have q16980 := mm_ltL (h := 65) (mm_nle c15908) q16978 q16979 (by decide)
                have q16981 := mm_leL (mm_le c14697) q16979 q16980
                have q16982 := mm_ltL (h := 64) (mm_nle c15908) q16980 q16981 (by decide)
                have q16983 := mm_leL (mm_le c14697) q16981 q16982
                have q16984 := mm_ltL (h := 63) (mm_nle c15908) q16982 q16983 (by decide)
                have q16985 := mm_leL (mm_le c14697) q16983 q16984
                have q16986 := mm_ltL (h := 62) (mm_nle c15908) q16984 q16985 (by decide)
                have q16987 := mm_leL (mm_le c14697) q16985 q16986
                have q16988 := mm_ltL (h := 61) (mm_nle c15908) q16986 q16987 (by decide)
                have q16989 := mm_leL (mm_le c14697) q16987 q16988
                have q16990 := mm_ltL (h := 60) (mm_nle c15908) q16988 q16989 (by decide)
                have q16991 := mm_leL (mm_le c14697) q16989 q16990
                have q16992 := mm_ltL (h := 59) (mm_nle c15908) q16990 q16991 (by decide)
                have q16993 := mm_leL (mm_le c14697) q16991 q16992
                have q16994 := mm_ltL (h := 58) (mm_nle c15908) q16992 q16993 (by decide)
                have q16995 := mm_leL (mm_le c14697) q16993 q16994
                have q16996 := mm_ltL (h := 57) (mm_nle c15908) q16994 q16995 (by decide)
                have q16997 := mm_leL (mm_le c14697) q16995 q16996
                have q16998 := mm_ltL (h := 56) (mm_nle c15908) q16996 q16997 (by decide)
                have q16999 := mm_leL (mm_le c14697) q16997 q16998
                have q17000 := mm_ltL (h := 55) (mm_nle c15908) q16998 q16999 (by decide)
                have q17001 := mm_leL (mm_le c14697) q16999 q17000
                have q17002 := mm_ltL (h := 54) (mm_nle c15908) q17000 q17001 (by decide)
                have q17003 := mm_leL (mm_le c14697) q17001 q17002
                have q17004 := mm_ltL (h := 53) (mm_nle c15908) q17002 q17003 (by decide)
                have q17005 := mm_leL (mm_le c14697) q17003 q17004
                have q17006 := mm_ltL (h := 52) (mm_nle c15908) q17004 q17005 (by decide)
                have q17007 := mm_leL (mm_le c14697) q17005 q17006
                have q17008 := mm_ltL (h := 51) (mm_nle c15908) q17006 q17007 (by decide)
                have q17009 := mm_leL (mm_le c14697) q17007 q17008
                have q17010 := mm_ltL (h := 50) (mm_nle c15908) q17008 q17009 (by decide)
                have q17011 := mm_leL (mm_le c14697) q17009 q17010
                have q17012 := mm_ltL (h := 49) (mm_nle c15908) q17010 q17011 (by decide)
                have q17013 := mm_leL (mm_le c14697) q17011 q17012
                have q17014 := mm_ltL (h := 48) (mm_nle c15908) q17012 q17013 (by decide)
                have q17015 := mm_leL (mm_le c14697) q17013 q17014
                have q17016 := mm_ltL (h := 47) (mm_nle c15908) q17014 q17015 (by decide)
                have q17017 := mm_leL (mm_le c14697) q17015 q17016
                have q17018 := mm_ltL (h := 46) (mm_nle c15908) q17016 q17017 (by decide)
                have q17019 := mm_leL (mm_le c14697) q17017 q17018
                have q17020 := mm_ltL (h := 45) (mm_nle c15908) q17018 q17019 (by decide)
                have q17021 := mm_leL (mm_le c14697) q17019 q17020
                have q17022 := mm_ltL (h := 44) (mm_nle c15908) q17020 q17021 (by decide)
                have q17023 := mm_leL (mm_le c14697) q17021 q17022
                have q17024 := mm_ltL (h := 43) (mm_nle c15908) q17022 q17023 (by decide)
                have q17025 := mm_leL (mm_le c14697) q17023 q17024
                have q17026 := mm_ltL (h := 42) (mm_nle c15908) q17024 q17025 (by decide)
                have q17027 := mm_leL (mm_le c14697) q17025 q17026
                have q17028 := mm_ltL (h := 41) (mm_nle c15908) q17026 q17027 (by decide)
                have q17029 := mm_leL (mm_le c14697) q17027 q17028
                have q17030 := mm_ltL (h := 40) (mm_nle c15908) q17028 q17029 (by decide)
                have q17031 := mm_leL (mm_le c14697) q17029 q17030
                have q17032 := mm_ltL (h := 39) (mm_nle c15908) q17030 q17031 (by decide)
                have q17033 := mm_leL (mm_le c14697) q17031 q17032
                have q17034 := mm_ltL (h := 38) (mm_nle c15908) q17032 q17033 (by decide)
                have q17035 := mm_leL (mm_le c14697) q17033 q17034
                have q17036 := mm_ltL (h := 37) (mm_nle c15908) q17034 q17035 (by decide)
                have q17037 := mm_leL (mm_le c14697) q17035 q17036
                have q17038 := mm_ltL (h := 36) (mm_nle c15908) q17036 q17037 (by decide)
                have q17039 := mm_leL (mm_le c14697) q17037 q17038
                have q17040 := mm_ltL (h := 35) (mm_nle c15908) q17038 q17039 (by decide)
                have q17041 := mm_leL (mm_le c14697) q17039 q17040
                have q17042 := mm_ltL (h := 34) (mm_nle c15908) q17040 q17041 (by decide)
                have q17043 := mm_leL (mm_le c14697) q17041 q17042
                have q17044 := mm_ltL (h := 33) (mm_nle c15908) q17042 q17043 (by decide)
                have q17045 := mm_leL (mm_le c14697) q17043 q17044
                have q17046 := mm_ltL (h := 32) (mm_nle c15908) q17044 q17045 (by decide)
                have q17047 := mm_leL (mm_le c14697) q17045 q17046
                have q17048 := mm_ltL (h := 31) (mm_nle c15908) q17046 q17047 (by decide)
                have q17049 := mm_leL (mm_le c14697) q17047 q17048
                have q17050 := mm_ltL (h := 30) (mm_nle c15908) q17048 q17049 (by decide)
                have q17051 := mm_leL (mm_le c14697) q17049 q17050
                have q17052 := mm_ltL (h := 29) (mm_nle c15908) q17050 q17051 (by decide)
                have q17053 := mm_leL (mm_le c14697) q17051 q17052
                have q17054 := mm_ltL (h := 28) (mm_nle c15908) q17052 q17053 (by decide)
                have q17055 := mm_leL (mm_le c14697) q17053 q17054
                have q17056 := mm_ltL (h := 27) (mm_nle c15908) q17054 q17055 (by decide)
                have q17057 := mm_leL (mm_le c14697) q17055 q17056
                have q17058 := mm_ltL (h := 26) (mm_nle c15908) q17056 q17057 (by decide)
                have q17059 := mm_leL (mm_le c14697) q17057 q17058
                have q17060 := mm_ltL (h := 25) (mm_nle c15908) q17058 q17059 (by decide)
                have q17061 := mm_leL (mm_le c14697) q17059 q17060
                have q17062 := mm_ltL (h := 24) (mm_nle c15908) q17060 q17061 (by decide)
                have q17063 := mm_leL (mm_le c14697) q17061 q17062
                have q17064 := mm_ltL (h := 23) (mm_nle c15908) q17062 q17063 (by decide)
                have q17065 := mm_leL (mm_le c14697) q17063 q17064
                have q17066 := mm_ltL (h := 22) (mm_nle c15908) q17064 q17065 (by decide)
                have q17067 := mm_leL (mm_le c14697) q17065 q17066
                have q17068 := mm_ltL (h := 21) (mm_nle c15908) q17066 q17067 (by decide)
                have q17069 := mm_leL (mm_le c14697) q17067 q17068
                have q17070 := mm_ltL (h := 20) (mm_nle c15908) q17068 q17069 (by decide)
                have q17071 := mm_leL (mm_le c14697) q17069 q17070
                have q17072 := mm_ltL (h := 19) (mm_nle c15908) q17070 q17071 (by decide)
                have q17073 := mm_leL (mm_le c14697) q17071 q17072
                have q17074 := mm_ltL (h := 18) (mm_nle c15908) q17072 q17073 (by decide)
                have q17075 := mm_leL (mm_le c14697) q17073 q17074
                have q17076 := mm_ltL (h := 17) (mm_nle c15908) q17074 q17075 (by decide)
                have q17077 := mm_leL (mm_le c14697) q17075 q17076
                have q17078 := mm_ltL (h := 16) (mm_nle c15908) q17076 q17077 (by decide)
                have q17079 := mm_leL (mm_le c14697) q17077 q17078
                have q17080 := mm_ltL (h := 15) (mm_nle c15908) q17078 q17079 (by decide)
                have q17081 := mm_leL (mm_le c14697) q17079 q17080
                have q17082 := mm_ltL (h := 14) (mm_nle c15908) q17080 q17081 (by decide)
                have q17083 := mm_leL (mm_le c14697) q17081 q17082
                have q17084 := mm_ltL (h := 13) (mm_nle c15908) q17082 q17083 (by decide)
                have q17085 := mm_leL (mm_le c14697) q17083 q17084
                have q17086 := mm_ltL (h := 12) (mm_nle c15908) q17084 q17085 (by decide)
                have q17087 := mm_leL (mm_le c14697) q17085 q17086
                have q17088 := mm_ltL (h := 11) (mm_nle c15908) q17086 q17087 (by decide)
                have q17089 := mm_leL (mm_le c14697) q17087 q17088
                have q17090 := mm_ltL (h := 10) (mm_nle c15908) q17088 q17089 (by decide)
                have q17091 := mm_leL (mm_le c14697) q17089 q17090
                have q17092 := mm_ltL (h := 9) (mm_nle c15908) q17090 q17091 (by decide)
                have q17093 := mm_leL (mm_le c14697) q17091 q17092
                have q17094 := mm_ltL (h := 8) (mm_nle c15908) q17092 q17093 (by decide)
                have q17095 := mm_leL (mm_le c14697) q17093 q17094
                have q17096 := mm_ltL (h := 7) (mm_nle c15908) q17094 q17095 (by decide)
                have q17097 := mm_leL (mm_le c14697) q17095 q17096
                have q17098 := mm_ltL (h := 6) (mm_nle c15908) q17096 q17097 (by decide)
                have q17099 := mm_leL (mm_le c14697) q17097 q17098
                have q17100 := mm_ltL (h := 5) (mm_nle c15908) q17098 q17099 (by decide)
                have q17101 := mm_leL (mm_le c14697) q17099 q17100
                have q17102 := mm_ltL (h := 4) (mm_nle c15908) q17100 q17101 (by decide)
                have q17103 := mm_leL (mm_le c14697) q17101 q17102
                have q17104 := mm_ltL (h := 3) (mm_nle c15908) q17102 q17103 (by decide)
                have q17105 := mm_leL (mm_le c14697) q17103 q17104
                have q17106 := mm_ltL (h := 2) (mm_nle c15908) q17104 q17105 (by decide)
                have q17107 := mm_leL (mm_le c14697) q17105 q17106
                have q17108 := mm_ltL (h := 1) (mm_nle c15908) q17106 q17107 (by decide)
                have q17109 := mm_leL (mm_le c14697) q17107 q17108
                have q17110 := mm_ltL (h := 0) (mm_nle c15908) q17108 q17109 (by decide)
                exact mm_no q17110 (by decide)
          · refine lv_aload_n hx hb dX7_nextToken_67 rfl (lv_at hl 2 rfl) ?_
            refine va_get (D := G) (ci := 7) (v := .int v14698) (C := RX7) (T := TX7) (N := 8) hx hb hts (mm_i inlX7) hown hK.1 hP 2 rfl rfl 4 (by decide) (mm_h hts mm_w207) (fun _ h9 => h9) rfl dX7_nextToken_68 ?_
            refine lv_iconst (v := 3) hx hb dX7_nextToken_71 (by decide) ?_
            refine lv_icmp_ne (tgt := 79) hx hb dX7_nextToken_72 (by decide) (fun c17111 => ?_) (fun c17111 => ?_)
            · refine lv_iconst (v := 0) hx hb dX7_nextToken_79 (by decide) ?_
              refine lv_istore_n (lv' := [(3, .int 0), (2, .int x5_1_14695), (1, .int x5_1_14695), (0, .ref a_0)]) hx hb dX7_nextToken_80 rfl hl (by decide) rfl ?_
              clear hl
              clear ls
              intro ls hl
              refine lv_iload_n hx hb dX7_nextToken_81 rfl (lv_at hl 0 rfl) ?_
              refine lv_if_eq (tgt := 114) hx hb dX7_nextToken_82 (by decide) (fun c17117 => ?_) (fun c17117 => ?_)
              · refine lv_aload_n hx hb dX7_nextToken_114 rfl (lv_at hl 3 rfl) ?_
                refine lv_iload_n hx hb dX7_nextToken_115 rfl (lv_at hl 2 rfl) ?_
                refine va_put (D := G) (ci := 7) (v := .int x5_1_14695) (ty := tyX7 5) (C := RX7) (T := TX7) (N := 8) hx hb hts (mm_i inlX7) tyX7 tyX7_ok nmX7 hown hK.1 hP hD hS 2 rfl rfl 5 (by decide) (mm_h hts mm_w232) (fun _ h9 => h9) rfl (tyX7_ok 5 (by decide)) rfl rfl (Nat.le_of_ble_eq_true rfl) dX7_nextToken_116 ?_
                clear hP hD hS
                clear H locs
                intro H locs (hP : va_P G vwCl [(a_1, .inr (9, [.ref a_2, .int i_0])), (a_2, .inl (cy 0, 600, .inl f_0)), (a_0, .inr (7, [.ref a_1, .ref a_3, .int i_1, .int i_2, .int v14698, .int x5_1_14695, .int i_5, .int i_6]))] H) (hD : va_D A [(a_1, .inr (9, [.ref a_2, .int i_0])), (a_2, .inl (cy 0, 600, .inl f_0)), (a_0, .inr (7, [.ref a_1, .ref a_3, .int i_1, .int i_2, .int v14698, .int x5_1_14695, .int i_5, .int i_6]))]) hS
                refine lv_aload_n hx hb dX7_nextToken_119 rfl (lv_at hl 3 rfl) ?_
                refine lv_iload_n hx hb dX7_nextToken_120 rfl (lv_at hl 1 rfl) ?_
                refine va_put (D := G) (ci := 7) (v := .int x5_1_14695) (ty := tyX7 6) (C := RX7) (T := TX7) (N := 8) hx hb hts (mm_i inlX7) tyX7 tyX7_ok nmX7 hown hK.1 hP hD hS 2 rfl rfl 6 (by decide) (mm_h hts mm_w206) (fun _ h9 => h9) rfl (tyX7_ok 6 (by decide)) rfl rfl (Nat.le_of_ble_eq_true rfl) dX7_nextToken_121 ?_
                clear hP hD hS
                clear H locs
                intro H locs (hP : va_P G vwCl [(a_1, .inr (9, [.ref a_2, .int i_0])), (a_2, .inl (cy 0, 600, .inl f_0)), (a_0, .inr (7, [.ref a_1, .ref a_3, .int i_1, .int i_2, .int v14698, .int x5_1_14695, .int x5_1_14695, .int i_6]))] H) (hD : va_D A [(a_1, .inr (9, [.ref a_2, .int i_0])), (a_2, .inl (cy 0, 600, .inl f_0)), (a_0, .inr (7, [.ref a_1, .ref a_3, .int i_1, .int i_2, .int v14698, .int x5_1_14695, .int x5_1_14695, .int i_6]))]) hS
                refine lv_aload_n hx hb dX7_nextToken_124 rfl (lv_at hl 3 rfl) ?_
                refine lv_aload_n hx hb dX7_nextToken_125 rfl (lv_at hl 3 rfl) ?_
                refine va_get (D := G) (ci := 7) (v := .int v14698) (C := RX7) (T := TX7) (N := 8) hx hb hts (mm_i inlX7) hown hK.1 hP 2 rfl rfl 4 (by decide) (mm_h hts mm_w207) (fun _ h9 => h9) rfl dX7_nextToken_126 ?_
                refine lv_iconst (v := 3) hx hb dX7_nextToken_129 (by decide) ?_
                refine lv_icmp_ne (tgt := 140) hx hb dX7_nextToken_130 (by decide) (fun c17118 => ?_) (fun c17118 => ?_)
                · refine lv_iconst (v := 0) hx hb dX7_nextToken_140 (by decide) ?_
                  refine va_put (D := G) (ci := 7) (v := .int 0) (ty := tyX7 7) (C := RX7) (T := TX7) (N := 8) hx hb hts (mm_i inlX7) tyX7 tyX7_ok nmX7 hown hK.1 hP hD hS 2 rfl rfl 7 (by decide) (mm_h hts mm_w233) (fun _ h9 => h9) rfl (tyX7_ok 7 (by decide)) rfl rfl (Nat.le_of_ble_eq_true rfl) dX7_nextToken_141 ?_
                  clear hP hD hS
                  clear H locs
                  intro H locs (hP : va_P G vwCl [(a_1, .inr (9, [.ref a_2, .int i_0])), (a_2, .inl (cy 0, 600, .inl f_0)), (a_0, .inr (7, [.ref a_1, .ref a_3, .int i_1, .int i_2, .int v14698, .int x5_1_14695, .int x5_1_14695, .int 0]))] H) (hD : va_D A [(a_1, .inr (9, [.ref a_2, .int i_0])), (a_2, .inl (cy 0, 600, .inl f_0)), (a_0, .inr (7, [.ref a_1, .ref a_3, .int i_1, .int i_2, .int v14698, .int x5_1_14695, .int x5_1_14695, .int 0]))]) hS
                  subst hAe
                  rw [hQ]
                  exact W.vret hx hb hr (fun t ht hW => ⟨⟨(v14698, x5_1_14695, x5_1_14695, 0), rfl, ⟨w14699, rx5_1_14695, rx5_1_14695⟩, by rw [ht]; exact hP, hK.warm hW, hD⟩, hS.F ht⟩) hS.2.2 dX7_nextToken_144
                · have q17119 := mm_eqI (lo := 3) (hi := 3) c17118 w14699 mm_k3 (by decide)
                  have q17120 := mm_neL (lo := 4) (mm_ne c17111) q17119 mm_k3 (by decide) (by decide)
                  exact mm_no q17120 (by decide)
              · have q17121 := mm_neL (lo := 1) (mm_ne c17117) mm_k0 mm_k0 (by decide) (by decide)
                exact mm_no q17121 (by decide)
            · have q17122 := mm_eqI (lo := 3) (hi := 3) c17111 w14699 mm_k3 (by decide)
              refine lv_iconst (v := 1) hx hb dX7_nextToken_75 (by decide) ?_
              refine lv_goto (tgt := 80) hx hb dX7_nextToken_76 (by decide) ?_
              refine lv_istore_n (lv' := [(3, .int 1), (2, .int x5_1_14695), (1, .int x5_1_14695), (0, .ref a_0)]) hx hb dX7_nextToken_80 rfl hl (by decide) rfl ?_
              clear hl
              clear ls
              intro ls hl
              refine lv_iload_n hx hb dX7_nextToken_81 rfl (lv_at hl 0 rfl) ?_
              refine lv_if_eq (tgt := 114) hx hb dX7_nextToken_82 (by decide) (fun c18329 => ?_) (fun c18329 => ?_)
              · exact mm_eqN c18329.symm mm_k0 mm_k1 (by decide)
              · refine lv_iload_n hx hb dX7_nextToken_85 rfl (lv_at hl 1 rfl) ?_
                refine lv_aload_n hx hb dX7_nextToken_86 rfl (lv_at hl 3 rfl) ?_
                refine va_get (D := G) (ci := 7) (v := .ref a_1) (C := RX7) (T := TX7) (N := 8) hx hb hts (mm_i inlX7) hown hK.1 hP 2 rfl rfl 0 (by decide) (mm_h hts mm_w67) (fun _ h9 => h9) rfl dX7_nextToken_87 ?_
                refine va_get (D := G) (ci := 9) (v := .int i_0) (C := RX9) (T := TX9) (N := 2) hx hb hts (mm_i inlX9) hown hK.1 hP 0 rfl rfl 1 (by decide) (mm_h hts mm_w231) (fun _ h9 => h9) rfl dX7_nextToken_90 ?_
                refine lv_icmp_ge (tgt := 114) hx hb dX7_nextToken_93 (by decide) (fun c18330 => ?_) (fun c18330 => ?_)
                · refine lv_aload_n hx hb dX7_nextToken_114 rfl (lv_at hl 3 rfl) ?_
                  refine lv_iload_n hx hb dX7_nextToken_115 rfl (lv_at hl 2 rfl) ?_
                  refine va_put (D := G) (ci := 7) (v := .int x5_1_14695) (ty := tyX7 5) (C := RX7) (T := TX7) (N := 8) hx hb hts (mm_i inlX7) tyX7 tyX7_ok nmX7 hown hK.1 hP hD hS 2 rfl rfl 5 (by decide) (mm_h hts mm_w232) (fun _ h9 => h9) rfl (tyX7_ok 5 (by decide)) rfl rfl (Nat.le_of_ble_eq_true rfl) dX7_nextToken_116 ?_
                  clear hP hD hS
                  clear H locs
                  intro H locs (hP : va_P G vwCl [(a_1, .inr (9, [.ref a_2, .int i_0])), (a_2, .inl (cy 0, 600, .inl f_0)), (a_0, .inr (7, [.ref a_1, .ref a_3, .int i_1, .int i_2, .int v14698, .int x5_1_14695, .int i_5, .int i_6]))] H) (hD : va_D A [(a_1, .inr (9, [.ref a_2, .int i_0])), (a_2, .inl (cy 0, 600, .inl f_0)), (a_0, .inr (7, [.ref a_1, .ref a_3, .int i_1, .int i_2, .int v14698, .int x5_1_14695, .int i_5, .int i_6]))]) hS
                  refine lv_aload_n hx hb dX7_nextToken_119 rfl (lv_at hl 3 rfl) ?_
                  refine lv_iload_n hx hb dX7_nextToken_120 rfl (lv_at hl 1 rfl) ?_
                  refine va_put (D := G) (ci := 7) (v := .int x5_1_14695) (ty := tyX7 6) (C := RX7) (T := TX7) (N := 8) hx hb hts (mm_i inlX7) tyX7 tyX7_ok nmX7 hown hK.1 hP hD hS 2 rfl rfl 6 (by decide) (mm_h hts mm_w206) (fun _ h9 => h9) rfl (tyX7_ok 6 (by decide)) rfl rfl (Nat.le_of_ble_eq_true rfl) dX7_nextToken_121 ?_
                  clear hP hD hS
                  clear H locs
                  intro H locs (hP : va_P G vwCl [(a_1, .inr (9, [.ref a_2, .int i_0])), (a_2, .inl (cy 0, 600, .inl f_0)), (a_0, .inr (7, [.ref a_1, .ref a_3, .int i_1, .int i_2, .int v14698, .int x5_1_14695, .int x5_1_14695, .int i_6]))] H) (hD : va_D A [(a_1, .inr (9, [.ref a_2, .int i_0])), (a_2, .inl (cy 0, 600, .inl f_0)), (a_0, .inr (7, [.ref a_1, .ref a_3, .int i_1, .int i_2, .int v14698, .int x5_1_14695, .int x5_1_14695, .int i_6]))]) hS
                  refine lv_aload_n hx hb dX7_nextToken_124 rfl (lv_at hl 3 rfl) ?_
                  refine lv_aload_n hx hb dX7_nextToken_125 rfl (lv_at hl 3 rfl) ?_
                  refine va_get (D := G) (ci := 7) (v := .int v14698) (C := RX7) (T := TX7) (N := 8) hx hb hts (mm_i inlX7) hown hK.1 hP 2 rfl rfl 4 (by decide) (mm_h hts mm_w207) (fun _ h9 => h9) rfl dX7_nextToken_126 ?_
                  refine lv_iconst (v := 3) hx hb dX7_nextToken_129 (by decide) ?_
                  refine lv_icmp_ne (tgt := 140) hx hb dX7_nextToken_130 (by decide) (fun c18331 => ?_) (fun c18331 => ?_)
                  · have q18332 := mm_neL (lo := 4) (mm_ne c18331) q17122 mm_k3 (by decide) (by decide)
                    exact mm_no q18332 (by decide)
                  · refine lv_aload_n hx hb dX7_nextToken_133 rfl (lv_at hl 3 rfl) ?_
                    refine mm_finir (va_runV (As := []) (rest := [.ref a_0]) ⟨hx, hb, hml, hown, hts⟩ (K8_X7_numberTold l G cy H.size a_0 a_1 a_2 i_0 f_0 a_3 i_1 i_2 v14698 x5_1_14695 x5_1_14695 i_6 h1 rx5_1_14695 rx5_1_14695) (cwV 0 hts (mm_gV mm_w239 mm_w240 mm_w241 mm_w19 mm_w242) rfl rfl rfl hd_X7_numberTold ⟨by rw [hRf]; exact Nat.le_of_ble_eq_true rfl, by rw [hRl]; exact Nat.le_of_ble_eq_true rfl⟩) (mm_preV hK hZ hS hA hP hD [0, 1, 2] rfl rfl 2 rfl rfl rfl) rfl rfl hl.1 rfl (lv_room (Nat.le_of_ble_eq_true rfl)) dX7_nextToken_134 ⟨by rw [hRc]; exact Nat.le_of_ble_eq_true rfl, by rw [hRs]; exact Nat.le_of_ble_eq_true rfl⟩) hP hD hS hA [0, 1, 2] rfl (fun _ => rfl) ?_
                    clear hP hD hS
                    clear H locs
                    intro v18333 _u H locs hw hP hD hS
                    refine lv_goto (tgt := 141) hx hb dX7_nextToken_137 (by decide) ?_
                    refine va_put (D := G) (ci := 7) (v := .int v18333) (ty := tyX7 7) (C := RX7) (T := TX7) (N := 8) hx hb hts (mm_i inlX7) tyX7 tyX7_ok nmX7 hown hK.1 hP hD hS 2 rfl rfl 7 (by decide) (mm_h hts mm_w233) (fun _ h9 => h9) rfl (tyX7_ok 7 (by decide)) rfl rfl (Nat.le_of_ble_eq_true rfl) dX7_nextToken_141 ?_
                    clear hP hD hS
                    clear H locs
                    intro H locs (hP : va_P G vwCl [(a_1, .inr (9, [.ref a_2, .int i_0])), (a_2, .inl (cy 0, 600, .inl f_0)), (a_0, .inr (7, [.ref a_1, .ref a_3, .int i_1, .int i_2, .int v14698, .int x5_1_14695, .int x5_1_14695, .int v18333]))] H) (hD : va_D A [(a_1, .inr (9, [.ref a_2, .int i_0])), (a_2, .inl (cy 0, 600, .inl f_0)), (a_0, .inr (7, [.ref a_1, .ref a_3, .int i_1, .int i_2, .int v14698, .int x5_1_14695, .int x5_1_14695, .int v18333]))]) hS
                    subst hAe
                    rw [hQ]
                    exact W.vret hx hb hr (fun t ht hW => ⟨⟨(v14698, x5_1_14695, x5_1_14695, v18333), rfl, ⟨(mm_wk q17122 (by decide)), rx5_1_14695, rx5_1_14695⟩, by rw [ht]; exact hP, hK.warm hW, hD⟩, hS.F ht⟩) hS.2.2 dX7_nextToken_144
                · have q18334 := mm_ltL (h := 599) (mm_nle c18330) rx5_1_14695 h0 (by decide)
                  have q18335 := mm_ltR (lo := 1) (mm_nle c18330) rx5_1_14695 h0 (by decide)
                  have q18336 := mm_leL (mm_le c14697) q18335 q18334
                  have q18337 := mm_leR (mm_le c14697) q18336 q18334
                  have q18338 := mm_ltL (h := 598) (mm_nle c18330) q18337 q18336 (by decide)
                  have q18339 := mm_leL (mm_le c14697) q18336 q18338
                  have q18340 := mm_ltL (h := 597) (mm_nle c18330) q18338 q18339 (by decide)
                  have q18341 := mm_leL (mm_le c14697) q18339 q18340
                  have q18342 := mm_ltL (h := 596) (mm_nle c18330) q18340 q18341 (by decide)
                  have q18343 := mm_leL (mm_le c14697) q18341 q18342
                  have q18344 := mm_ltL (h := 595) (mm_nle c18330) q18342 q18343 (by decide)
                  have q18345 := mm_leL (mm_le c14697) q18343 q18344
                  have q18346 := mm_ltL (h := 594) (mm_nle c18330) q18344 q18345 (by decide)
                  have q18347 := mm_leL (mm_le c14697) q18345 q18346
                  have q18348 := mm_ltL (h := 593) (mm_nle c18330) q18346 q18347 (by decide)
                  have q18349 := mm_leL (mm_le c14697) q18347 q18348
                  have q18350 := mm_ltL (h := 592) (mm_nle c18330) q18348 q18349 (by decide)
                  have q18351 := mm_leL (mm_le c14697) q18349 q18350
                  have q18352 := mm_ltL (h := 591) (mm_nle c18330) q18350 q18351 (by decide)
                  have q18353 := mm_leL (mm_le c14697) q18351 q18352
                  have q18354 := mm_ltL (h := 590) (mm_nle c18330) q18352 q18353 (by decide)
                  have q18355 := mm_leL (mm_le c14697) q18353 q18354
                  have q18356 := mm_ltL (h := 589) (mm_nle c18330) q18354 q18355 (by decide)
                  have q18357 := mm_leL (mm_le c14697) q18355 q18356
                  have q18358 := mm_ltL (h := 588) (mm_nle c18330) q18356 q18357 (by decide)
                  have q18359 := mm_leL (mm_le c14697) q18357 q18358
                  have q18360 := mm_ltL (h := 587) (mm_nle c18330) q18358 q18359 (by decide)
                  have q18361 := mm_leL (mm_le c14697) q18359 q18360
                  have q18362 := mm_ltL (h := 586) (mm_nle c18330) q18360 q18361 (by decide)
                  have q18363 := mm_leL (mm_le c14697) q18361 q18362
                  have q18364 := mm_ltL (h := 585) (mm_nle c18330) q18362 q18363 (by decide)
                  have q18365 := mm_leL (mm_le c14697) q18363 q18364
                  have q18366 := mm_ltL (h := 584) (mm_nle c18330) q18364 q18365 (by decide)
                  have q18367 := mm_leL (mm_le c14697) q18365 q18366
                  have q18368 := mm_ltL (h := 583) (mm_nle c18330) q18366 q18367 (by decide)
                  have q18369 := mm_leL (mm_le c14697) q18367 q18368
                  have q18370 := mm_ltL (h := 582) (mm_nle c18330) q18368 q18369 (by decide)
                  have q18371 := mm_leL (mm_le c14697) q18369 q18370
                  have q18372 := mm_ltL (h := 581) (mm_nle c18330) q18370 q18371 (by decide)
                  have q18373 := mm_leL (mm_le c14697) q18371 q18372
                  have q18374 := mm_ltL (h := 580) (mm_nle c18330) q18372 q18373 (by decide)
                  have q18375 := mm_leL (mm_le c14697) q18373 q18374
                  have q18376 := mm_ltL (h := 579) (mm_nle c18330) q18374 q18375 (by decide)
                  have q18377 := mm_leL (mm_le c14697) q18375 q18376
                  have q18378 := mm_ltL (h := 578) (mm_nle c18330) q18376 q18377 (by decide)
                  have q18379 := mm_leL (mm_le c14697) q18377 q18378
                  have q18380 := mm_ltL (h := 577) (mm_nle c18330) q18378 q18379 (by decide)
                  have q18381 := mm_leL (mm_le c14697) q18379 q18380
                  have q18382 := mm_ltL (h := 576) (mm_nle c18330) q18380 q18381 (by decide)
                  have q18383 := mm_leL (mm_le c14697) q18381 q18382
                  have q18384 := mm_ltL (h := 575) (mm_nle c18330) q18382 q18383 (by decide)
                  have q18385 := mm_leL (mm_le c14697) q18383 q18384
                  have q18386 := mm_ltL (h := 574) (mm_nle c18330) q18384 q18385 (by decide)
                  have q18387 := mm_leL (mm_le c14697) q18385 q18386
                  have q18388 := mm_ltL (h := 573) (mm_nle c18330) q18386 q18387 (by decide)
                  have q18389 := mm_leL (mm_le c14697) q18387 q18388
                  have q18390 := mm_ltL (h := 572) (mm_nle c18330) q18388 q18389 (by decide)
                  have q18391 := mm_leL (mm_le c14697) q18389 q18390
                  have q18392 := mm_ltL (h := 571) (mm_nle c18330) q18390 q18391 (by decide)
                  have q18393 := mm_leL (mm_le c14697) q18391 q18392
                  have q18394 := mm_ltL (h := 570) (mm_nle c18330) q18392 q18393 (by decide)
                  have q18395 := mm_leL (mm_le c14697) q18393 q18394
                  have q18396 := mm_ltL (h := 569) (mm_nle c18330) q18394 q18395 (by decide)
                  have q18397 := mm_leL (mm_le c14697) q18395 q18396
                  have q18398 := mm_ltL (h := 568) (mm_nle c18330) q18396 q18397 (by decide)
                  have q18399 := mm_leL (mm_le c14697) q18397 q18398
                  have q18400 := mm_ltL (h := 567) (mm_nle c18330) q18398 q18399 (by decide)
                  have q18401 := mm_leL (mm_le c14697) q18399 q18400
                  have q18402 := mm_ltL (h := 566) (mm_nle c18330) q18400 q18401 (by decide)
                  have q18403 := mm_leL (mm_le c14697) q18401 q18402
                  have q18404 := mm_ltL (h := 565) (mm_nle c18330) q18402 q18403 (by decide)
                  have q18405 := mm_leL (mm_le c14697) q18403 q18404
                  have q18406 := mm_ltL (h := 564) (mm_nle c18330) q18404 q18405 (by decide)
                  have q18407 := mm_leL (mm_le c14697) q18405 q18406
                  have q18408 := mm_ltL (h := 563) (mm_nle c18330) q18406 q18407 (by decide)
                  have q18409 := mm_leL (mm_le c14697) q18407 q18408
                  have q18410 := mm_ltL (h := 562) (mm_nle c18330) q18408 q18409 (by decide)
                  have q18411 := mm_leL (mm_le c14697) q18409 q18410
                  have q18412 := mm_ltL (h := 561) (mm_nle c18330) q18410 q18411 (by decide)
                  have q18413 := mm_leL (mm_le c14697) q18411 q18412
                  have q18414 := mm_ltL (h := 560) (mm_nle c18330) q18412 q18413 (by decide)
                  have q18415 := mm_leL (mm_le c14697) q18413 q18414
                  have q18416 := mm_ltL (h := 559) (mm_nle c18330) q18414 q18415 (by decide)
                  have q18417 := mm_leL (mm_le c14697) q18415 q18416
                  have q18418 := mm_ltL (h := 558) (mm_nle c18330) q18416 q18417 (by decide)
                  have q18419 := mm_leL (mm_le c14697) q18417 q18418
                  have q18420 := mm_ltL (h := 557) (mm_nle c18330) q18418 q18419 (by decide)
                  have q18421 := mm_leL (mm_le c14697) q18419 q18420
                  have q18422 := mm_ltL (h := 556) (mm_nle c18330) q18420 q18421 (by decide)
                  have q18423 := mm_leL (mm_le c14697) q18421 q18422
                  have q18424 := mm_ltL (h := 555) (mm_nle c18330) q18422 q18423 (by decide)
                  have q18425 := mm_leL (mm_le c14697) q18423 q18424
                  have q18426 := mm_ltL (h := 554) (mm_nle c18330) q18424 q18425 (by decide)
                  have q18427 := mm_leL (mm_le c14697) q18425 q18426
                  have q18428 := mm_ltL (h := 553) (mm_nle c18330) q18426 q18427 (by decide)
                  have q18429 := mm_leL (mm_le c14697) q18427 q18428
                  have q18430 := mm_ltL (h := 552) (mm_nle c18330) q18428 q18429 (by decide)
                  have q18431 := mm_leL (mm_le c14697) q18429 q18430
                  have q18432 := mm_ltL (h := 551) (mm_nle c18330) q18430 q18431 (by decide)
                  have q18433 := mm_leL (mm_le c14697) q18431 q18432
                  have q18434 := mm_ltL (h := 550) (mm_nle c18330) q18432 q18433 (by decide)
                  have q18435 := mm_leL (mm_le c14697) q18433 q18434
                  have q18436 := mm_ltL (h := 549) (mm_nle c18330) q18434 q18435 (by decide)
                  have q18437 := mm_leL (mm_le c14697) q18435 q18436
                  have q18438 := mm_ltL (h := 548) (mm_nle c18330) q18436 q18437 (by decide)
                  have q18439 := mm_leL (mm_le c14697) q18437 q18438
                  have q18440 := mm_ltL (h := 547) (mm_nle c18330) q18438 q18439 (by decide)
                  have q18441 := mm_leL (mm_le c14697) q18439 q18440
                  have q18442 := mm_ltL (h := 546) (mm_nle c18330) q18440 q18441 (by decide)
                  have q18443 := mm_leL (mm_le c14697) q18441 q18442
                  have q18444 := mm_ltL (h := 545) (mm_nle c18330) q18442 q18443 (by decide)
                  have q18445 := mm_leL (mm_le c14697) q18443 q18444
                  have q18446 := mm_ltL (h := 544) (mm_nle c18330) q18444 q18445 (by decide)
                  have q18447 := mm_leL (mm_le c14697) q18445 q18446
                  have q18448 := mm_ltL (h := 543) (mm_nle c18330) q18446 q18447 (by decide)
                  have q18449 := mm_leL (mm_le c14697) q18447 q18448
                  have q18450 := mm_ltL (h := 542) (mm_nle c18330) q18448 q18449 (by decide)
                  have q18451 := mm_leL (mm_le c14697) q18449 q18450
                  have q18452 := mm_ltL (h := 541) (mm_nle c18330) q18450 q18451 (by decide)
                  have q18453 := mm_leL (mm_le c14697) q18451 q18452
                  have q18454 := mm_ltL (h := 540) (mm_nle c18330) q18452 q18453 (by decide)
                  have q18455 := mm_leL (mm_le c14697) q18453 q18454
                  have q18456 := mm_ltL (h := 539) (mm_nle c18330) q18454 q18455 (by decide)
                  have q18457 := mm_leL (mm_le c14697) q18455 q18456
                  have q18458 := mm_ltL (h := 538) (mm_nle c18330) q18456 q18457 (by decide)
                  have q18459 := mm_leL (mm_le c14697) q18457 q18458
                  have q18460 := mm_ltL (h := 537) (mm_nle c18330) q18458 q18459 (by decide)
                  have q18461 := mm_leL (mm_le c14697) q18459 q18460
                  have q18462 := mm_ltL (h := 536) (mm_nle c18330) q18460 q18461 (by decide)
                  have q18463 := mm_leL (mm_le c14697) q18461 q18462
                  have q18464 := mm_ltL (h := 535) (mm_nle c18330) q18462 q18463 (by decide)
                  have q18465 := mm_leL (mm_le c14697) q18463 q18464
                  have q18466 := mm_ltL (h := 534) (mm_nle c18330) q18464 q18465 (by decide)
                  have q18467 := mm_leL (mm_le c14697) q18465 q18466
                  have q18468 := mm_ltL (h := 533) (mm_nle c18330) q18466 q18467 (by decide)
                  have q18469 := mm_leL (mm_le c14697) q18467 q18468
                  have q18470 := mm_ltL (h := 532) (mm_nle c18330) q18468 q18469 (by decide)
                  have q18471 := mm_leL (mm_le c14697) q18469 q18470
                  have q18472 := mm_ltL (h := 531) (mm_nle c18330) q18470 q18471 (by decide)
                  have q18473 := mm_leL (mm_le c14697) q18471 q18472
                  have q18474 := mm_ltL (h := 530) (mm_nle c18330) q18472 q18473 (by decide)
                  have q18475 := mm_leL (mm_le c14697) q18473 q18474
                  have q18476 := mm_ltL (h := 529) (mm_nle c18330) q18474 q18475 (by decide)
                  have q18477 := mm_leL (mm_le c14697) q18475 q18476
                  have q18478 := mm_ltL (h := 528) (mm_nle c18330) q18476 q18477 (by decide)
                  have q18479 := mm_leL (mm_le c14697) q18477 q18478
                  have q18480 := mm_ltL (h := 527) (mm_nle c18330) q18478 q18479 (by decide)
                  have q18481 := mm_leL (mm_le c14697) q18479 q18480
                  have q18482 := mm_ltL (h := 526) (mm_nle c18330) q18480 q18481 (by decide)
                  have q18483 := mm_leL (mm_le c14697) q18481 q18482
                  have q18484 := mm_ltL (h := 525) (mm_nle c18330) q18482 q18483 (by decide)
                  have q18485 := mm_leL (mm_le c14697) q18483 q18484
                  have q18486 := mm_ltL (h := 524) (mm_nle c18330) q18484 q18485 (by decide)
                  have q18487 := mm_leL (mm_le c14697) q18485 q18486
                  have q18488 := mm_ltL (h := 523) (mm_nle c18330) q18486 q18487 (by decide)
                  have q18489 := mm_leL (mm_le c14697) q18487 q18488
                  have q18490 := mm_ltL (h := 522) (mm_nle c18330) q18488 q18489 (by decide)
                  have q18491 := mm_leL (mm_le c14697) q18489 q18490
                  have q18492 := mm_ltL (h := 521) (mm_nle c18330) q18490 q18491 (by decide)
                  have q18493 := mm_leL (mm_le c14697) q18491 q18492
                  have q18494 := mm_ltL (h := 520) (mm_nle c18330) q18492 q18493 (by decide)
                  have q18495 := mm_leL (mm_le c14697) q18493 q18494
                  have q18496 := mm_ltL (h := 519) (mm_nle c18330) q18494 q18495 (by decide)
                  have q18497 := mm_leL (mm_le c14697) q18495 q18496
                  have q18498 := mm_ltL (h := 518) (mm_nle c18330) q18496 q18497 (by decide)
                  have q18499 := mm_leL (mm_le c14697) q18497 q18498
                  have q18500 := mm_ltL (h := 517) (mm_nle c18330) q18498 q18499 (by decide)
                  have q18501 := mm_leL (mm_le c14697) q18499 q18500
                  have q18502 := mm_ltL (h := 516) (mm_nle c18330) q18500 q18501 (by decide)
                  have q18503 := mm_leL (mm_le c14697) q18501 q18502
                  have q18504 := mm_ltL (h := 515) (mm_nle c18330) q18502 q18503 (by decide)
                  have q18505 := mm_leL (mm_le c14697) q18503 q18504
                  have q18506 := mm_ltL (h := 514) (mm_nle c18330) q18504 q18505 (by decide)
                  have q18507 := mm_leL (mm_le c14697) q18505 q18506
                  have q18508 := mm_ltL (h := 513) (mm_nle c18330) q18506 q18507 (by decide)
                  have q18509 := mm_leL (mm_le c14697) q18507 q18508
                  have q18510 := mm_ltL (h := 512) (mm_nle c18330) q18508 q18509 (by decide)
                  have q18511 := mm_leL (mm_le c14697) q18509 q18510
                  have q18512 := mm_ltL (h := 511) (mm_nle c18330) q18510 q18511 (by decide)
                  have q18513 := mm_leL (mm_le c14697) q18511 q18512
                  have q18514 := mm_ltL (h := 510) (mm_nle c18330) q18512 q18513 (by decide)
                  have q18515 := mm_leL (mm_le c14697) q18513 q18514
                  have q18516 := mm_ltL (h := 509) (mm_nle c18330) q18514 q18515 (by decide)
                  have q18517 := mm_leL (mm_le c14697) q18515 q18516
                  have q18518 := mm_ltL (h := 508) (mm_nle c18330) q18516 q18517 (by decide)
                  have q18519 := mm_leL (mm_le c14697) q18517 q18518
                  have q18520 := mm_ltL (h := 507) (mm_nle c18330) q18518 q18519 (by decide)
                  have q18521 := mm_leL (mm_le c14697) q18519 q18520
                  have q18522 := mm_ltL (h := 506) (mm_nle c18330) q18520 q18521 (by decide)
                  have q18523 := mm_leL (mm_le c14697) q18521 q18522
                  have q18524 := mm_ltL (h := 505) (mm_nle c18330) q18522 q18523 (by decide)
                  have q18525 := mm_leL (mm_le c14697) q18523 q18524
                  have q18526 := mm_ltL (h := 504) (mm_nle c18330) q18524 q18525 (by decide)
                  have q18527 := mm_leL (mm_le c14697) q18525 q18526
                  have q18528 := mm_ltL (h := 503) (mm_nle c18330) q18526 q18527 (by decide)
                  have q18529 := mm_leL (mm_le c14697) q18527 q18528
                  have q18530 := mm_ltL (h := 502) (mm_nle c18330) q18528 q18529 (by decide)
                  have q18531 := mm_leL (mm_le c14697) q18529 q18530
                  have q18532 := mm_ltL (h := 501) (mm_nle c18330) q18530 q18531 (by decide)
                  have q18533 := mm_leL (mm_le c14697) q18531 q18532
                  have q18534 := mm_ltL (h := 500) (mm_nle c18330) q18532 q18533 (by decide)
                  have q18535 := mm_leL (mm_le c14697) q18533 q18534
                  have q18536 := mm_ltL (h := 499) (mm_nle c18330) q18534 q18535 (by decide)
                  have q18537 := mm_leL (mm_le c14697) q18535 q18536
                  have q18538 := mm_ltL (h := 498) (mm_nle c18330) q18536 q18537 (by decide)
                  have q18539 := mm_leL (mm_le c14697) q18537 q18538
                  have q18540 := mm_ltL (h := 497) (mm_nle c18330) q18538 q18539 (by decide)
                  have q18541 := mm_leL (mm_le c14697) q18539 q18540
                  have q18542 := mm_ltL (h := 496) (mm_nle c18330) q18540 q18541 (by decide)
                  have q18543 := mm_leL (mm_le c14697) q18541 q18542
                  have q18544 := mm_ltL (h := 495) (mm_nle c18330) q18542 q18543 (by decide)
                  have q18545 := mm_leL (mm_le c14697) q18543 q18544
                  have q18546 := mm_ltL (h := 494) (mm_nle c18330) q18544 q18545 (by decide)
                  have q18547 := mm_leL (mm_le c14697) q18545 q18546
                  have q18548 := mm_ltL (h := 493) (mm_nle c18330) q18546 q18547 (by decide)
                  have q18549 := mm_leL (mm_le c14697) q18547 q18548
                  have q18550 := mm_ltL (h := 492) (mm_nle c18330) q18548 q18549 (by decide)
                  have q18551 := mm_leL (mm_le c14697) q18549 q18550
                  have q18552 := mm_ltL (h := 491) (mm_nle c18330) q18550 q18551 (by decide)
                  have q18553 := mm_leL (mm_le c14697) q18551 q18552
                  have q18554 := mm_ltL (h := 490) (mm_nle c18330) q18552 q18553 (by decide)
                  have q18555 := mm_leL (mm_le c14697) q18553 q18554
                  have q18556 := mm_ltL (h := 489) (mm_nle c18330) q18554 q18555 (by decide)
                  have q18557 := mm_leL (mm_le c14697) q18555 q18556
                  have q18558 := mm_ltL (h := 488) (mm_nle c18330) q18556 q18557 (by decide)
                  have q18559 := mm_leL (mm_le c14697) q18557 q18558
                  have q18560 := mm_ltL (h := 487) (mm_nle c18330) q18558 q18559 (by decide)
                  have q18561 := mm_leL (mm_le c14697) q18559 q18560
                  have q18562 := mm_ltL (h := 486) (mm_nle c18330) q18560 q18561 (by decide)
                  have q18563 := mm_leL (mm_le c14697) q18561 q18562
                  have q18564 := mm_ltL (h := 485) (mm_nle c18330) q18562 q18563 (by decide)
                  have q18565 := mm_leL (mm_le c14697) q18563 q18564
                  have q18566 := mm_ltL (h := 484) (mm_nle c18330) q18564 q18565 (by decide)
                  have q18567 := mm_leL (mm_le c14697) q18565 q18566
                  have q18568 := mm_ltL (h := 483) (mm_nle c18330) q18566 q18567 (by decide)
                  have q18569 := mm_leL (mm_le c14697) q18567 q18568
                  have q18570 := mm_ltL (h := 482) (mm_nle c18330) q18568 q18569 (by decide)
                  have q18571 := mm_leL (mm_le c14697) q18569 q18570
                  have q18572 := mm_ltL (h := 481) (mm_nle c18330) q18570 q18571 (by decide)
                  have q18573 := mm_leL (mm_le c14697) q18571 q18572
                  have q18574 := mm_ltL (h := 480) (mm_nle c18330) q18572 q18573 (by decide)
                  have q18575 := mm_leL (mm_le c14697) q18573 q18574
                  have q18576 := mm_ltL (h := 479) (mm_nle c18330) q18574 q18575 (by decide)
                  have q18577 := mm_leL (mm_le c14697) q18575 q18576
                  have q18578 := mm_ltL (h := 478) (mm_nle c18330) q18576 q18577 (by decide)
                  have q18579 := mm_leL (mm_le c14697) q18577 q18578
                  have q18580 := mm_ltL (h := 477) (mm_nle c18330) q18578 q18579 (by decide)
                  have q18581 := mm_leL (mm_le c14697) q18579 q18580
                  have q18582 := mm_ltL (h := 476) (mm_nle c18330) q18580 q18581 (by decide)
                  have q18583 := mm_leL (mm_le c14697) q18581 q18582
                  have q18584 := mm_ltL (h := 475) (mm_nle c18330) q18582 q18583 (by decide)
                  have q18585 := mm_leL (mm_le c14697) q18583 q18584
                  have q18586 := mm_ltL (h := 474) (mm_nle c18330) q18584 q18585 (by decide)
                  have q18587 := mm_leL (mm_le c14697) q18585 q18586
                  have q18588 := mm_ltL (h := 473) (mm_nle c18330) q18586 q18587 (by decide)
                  have q18589 := mm_leL (mm_le c14697) q18587 q18588
                  have q18590 := mm_ltL (h := 472) (mm_nle c18330) q18588 q18589 (by decide)
                  have q18591 := mm_leL (mm_le c14697) q18589 q18590
                  have q18592 := mm_ltL (h := 471) (mm_nle c18330) q18590 q18591 (by decide)
                  have q18593 := mm_leL (mm_le c14697) q18591 q18592
                  have q18594 := mm_ltL (h := 470) (mm_nle c18330) q18592 q18593 (by decide)
                  have q18595 := mm_leL (mm_le c14697) q18593 q18594
                  have q18596 := mm_ltL (h := 469) (mm_nle c18330) q18594 q18595 (by decide)
                  have q18597 := mm_leL (mm_le c14697) q18595 q18596
                  have q18598 := mm_ltL (h := 468) (mm_nle c18330) q18596 q18597 (by decide)
                  have q18599 := mm_leL (mm_le c14697) q18597 q18598
                  have q18600 := mm_ltL (h := 467) (mm_nle c18330) q18598 q18599 (by decide)
                  have q18601 := mm_leL (mm_le c14697) q18599 q18600
                  have q18602 := mm_ltL (h := 466) (mm_nle c18330) q18600 q18601 (by decide)
                  have q18603 := mm_leL (mm_le c14697) q18601 q18602
                  have q18604 := mm_ltL (h := 465) (mm_nle c18330) q18602 q18603 (by decide)
                  have q18605 := mm_leL (mm_le c14697) q18603 q18604
                  have q18606 := mm_ltL (h := 464) (mm_nle c18330) q18604 q18605 (by decide)
                  have q18607 := mm_leL (mm_le c14697) q18605 q18606
                  have q18608 := mm_ltL (h := 463) (mm_nle c18330) q18606 q18607 (by decide)
                  have q18609 := mm_leL (mm_le c14697) q18607 q18608
                  have q18610 := mm_ltL (h := 462) (mm_nle c18330) q18608 q18609 (by decide)
                  have q18611 := mm_leL (mm_le c14697) q18609 q18610
                  have q18612 := mm_ltL (h := 461) (mm_nle c18330) q18610 q18611 (by decide)
                  have q18613 := mm_leL (mm_le c14697) q18611 q18612
                  have q18614 := mm_ltL (h := 460) (mm_nle c18330) q18612 q18613 (by decide)
                  have q18615 := mm_leL (mm_le c14697) q18613 q18614
                  have q18616 := mm_ltL (h := 459) (mm_nle c18330) q18614 q18615 (by decide)
                  have q18617 := mm_leL (mm_le c14697) q18615 q18616
                  have q18618 := mm_ltL (h := 458) (mm_nle c18330) q18616 q18617 (by decide)
                  have q18619 := mm_leL (mm_le c14697) q18617 q18618
                  have q18620 := mm_ltL (h := 457) (mm_nle c18330) q18618 q18619 (by decide)
                  have q18621 := mm_leL (mm_le c14697) q18619 q18620
                  have q18622 := mm_ltL (h := 456) (mm_nle c18330) q18620 q18621 (by decide)
                  have q18623 := mm_leL (mm_le c14697) q18621 q18622
                  have q18624 := mm_ltL (h := 455) (mm_nle c18330) q18622 q18623 (by decide)
                  have q18625 := mm_leL (mm_le c14697) q18623 q18624
                  have q18626 := mm_ltL (h := 454) (mm_nle c18330) q18624 q18625 (by decide)
                  have q18627 := mm_leL (mm_le c14697) q18625 q18626
                  have q18628 := mm_ltL (h := 453) (mm_nle c18330) q18626 q18627 (by decide)
                  have q18629 := mm_leL (mm_le c14697) q18627 q18628
                  have q18630 := mm_ltL (h := 452) (mm_nle c18330) q18628 q18629 (by decide)
                  have q18631 := mm_leL (mm_le c14697) q18629 q18630
                  have q18632 := mm_ltL (h := 451) (mm_nle c18330) q18630 q18631 (by decide)
                  have q18633 := mm_leL (mm_le c14697) q18631 q18632
                  have q18634 := mm_ltL (h := 450) (mm_nle c18330) q18632 q18633 (by decide)
                  have q18635 := mm_leL (mm_le c14697) q18633 q18634
                  have q18636 := mm_ltL (h := 449) (mm_nle c18330) q18634 q18635 (by decide)
                  have q18637 := mm_leL (mm_le c14697) q18635 q18636
                  have q18638 := mm_ltL (h := 448) (mm_nle c18330) q18636 q18637 (by decide)
                  have q18639 := mm_leL (mm_le c14697) q18637 q18638
                  have q18640 := mm_ltL (h := 447) (mm_nle c18330) q18638 q18639 (by decide)
                  have q18641 := mm_leL (mm_le c14697) q18639 q18640
                  have q18642 := mm_ltL (h := 446) (mm_nle c18330) q18640 q18641 (by decide)
                  have q18643 := mm_leL (mm_le c14697) q18641 q18642
                  have q18644 := mm_ltL (h := 445) (mm_nle c18330) q18642 q18643 (by decide)
                  have q18645 := mm_leL (mm_le c14697) q18643 q18644
                  have q18646 := mm_ltL (h := 444) (mm_nle c18330) q18644 q18645 (by decide)
                  have q18647 := mm_leL (mm_le c14697) q18645 q18646
                  have q18648 := mm_ltL (h := 443) (mm_nle c18330) q18646 q18647 (by decide)
                  have q18649 := mm_leL (mm_le c14697) q18647 q18648
                  have q18650 := mm_ltL (h := 442) (mm_nle c18330) q18648 q18649 (by decide)
                  have q18651 := mm_leL (mm_le c14697) q18649 q18650
                  have q18652 := mm_ltL (h := 441) (mm_nle c18330) q18650 q18651 (by decide)
                  have q18653 := mm_leL (mm_le c14697) q18651 q18652
                  have q18654 := mm_ltL (h := 440) (mm_nle c18330) q18652 q18653 (by decide)
                  have q18655 := mm_leL (mm_le c14697) q18653 q18654
                  have q18656 := mm_ltL (h := 439) (mm_nle c18330) q18654 q18655 (by decide)
                  have q18657 := mm_leL (mm_le c14697) q18655 q18656
                  have q18658 := mm_ltL (h := 438) (mm_nle c18330) q18656 q18657 (by decide)
                  have q18659 := mm_leL (mm_le c14697) q18657 q18658
                  have q18660 := mm_ltL (h := 437) (mm_nle c18330) q18658 q18659 (by decide)
                  have q18661 := mm_leL (mm_le c14697) q18659 q18660
                  have q18662 := mm_ltL (h := 436) (mm_nle c18330) q18660 q18661 (by decide)
                  have q18663 := mm_leL (mm_le c14697) q18661 q18662
                  have q18664 := mm_ltL (h := 435) (mm_nle c18330) q18662 q18663 (by decide)
                  have q18665 := mm_leL (mm_le c14697) q18663 q18664
                  have q18666 := mm_ltL (h := 434) (mm_nle c18330) q18664 q18665 (by decide)
                  have q18667 := mm_leL (mm_le c14697) q18665 q18666
                  have q18668 := mm_ltL (h := 433) (mm_nle c18330) q18666 q18667 (by decide)
                  have q18669 := mm_leL (mm_le c14697) q18667 q18668
                  have q18670 := mm_ltL (h := 432) (mm_nle c18330) q18668 q18669 (by decide)
                  have q18671 := mm_leL (mm_le c14697) q18669 q18670
                  have q18672 := mm_ltL (h := 431) (mm_nle c18330) q18670 q18671 (by decide)
                  have q18673 := mm_leL (mm_le c14697) q18671 q18672
                  have q18674 := mm_ltL (h := 430) (mm_nle c18330) q18672 q18673 (by decide)
                  have q18675 := mm_leL (mm_le c14697) q18673 q18674
                  have q18676 := mm_ltL (h := 429) (mm_nle c18330) q18674 q18675 (by decide)
                  have q18677 := mm_leL (mm_le c14697) q18675 q18676
                  have q18678 := mm_ltL (h := 428) (mm_nle c18330) q18676 q18677 (by decide)
                  have q18679 := mm_leL (mm_le c14697) q18677 q18678
                  have q18680 := mm_ltL (h := 427) (mm_nle c18330) q18678 q18679 (by decide)
                  have q18681 := mm_leL (mm_le c14697) q18679 q18680
                  have q18682 := mm_ltL (h := 426) (mm_nle c18330) q18680 q18681 (by decide)
                  have q18683 := mm_leL (mm_le c14697) q18681 q18682
                  have q18684 := mm_ltL (h := 425) (mm_nle c18330) q18682 q18683 (by decide)
                  have q18685 := mm_leL (mm_le c14697) q18683 q18684
                  have q18686 := mm_ltL (h := 424) (mm_nle c18330) q18684 q18685 (by decide)
                  have q18687 := mm_leL (mm_le c14697) q18685 q18686
                  have q18688 := mm_ltL (h := 423) (mm_nle c18330) q18686 q18687 (by decide)
                  have q18689 := mm_leL (mm_le c14697) q18687 q18688
                  have q18690 := mm_ltL (h := 422) (mm_nle c18330) q18688 q18689 (by decide)
                  have q18691 := mm_leL (mm_le c14697) q18689 q18690
                  have q18692 := mm_ltL (h := 421) (mm_nle c18330) q18690 q18691 (by decide)
                  have q18693 := mm_leL (mm_le c14697) q18691 q18692
                  have q18694 := mm_ltL (h := 420) (mm_nle c18330) q18692 q18693 (by decide)
                  have q18695 := mm_leL (mm_le c14697) q18693 q18694
                  have q18696 := mm_ltL (h := 419) (mm_nle c18330) q18694 q18695 (by decide)
                  have q18697 := mm_leL (mm_le c14697) q18695 q18696
                  have q18698 := mm_ltL (h := 418) (mm_nle c18330) q18696 q18697 (by decide)
                  have q18699 := mm_leL (mm_le c14697) q18697 q18698
                  have q18700 := mm_ltL (h := 417) (mm_nle c18330) q18698 q18699 (by decide)
                  have q18701 := mm_leL (mm_le c14697) q18699 q18700
                  have q18702 := mm_ltL (h := 416) (mm_nle c18330) q18700 q18701 (by decide)
                  have q18703 := mm_leL (mm_le c14697) q18701 q18702
                  have q18704 := mm_ltL (h := 415) (mm_nle c18330) q18702 q18703 (by decide)
                  have q18705 := mm_leL (mm_le c14697) q18703 q18704
                  have q18706 := mm_ltL (h := 414) (mm_nle c18330) q18704 q18705 (by decide)
                  have q18707 := mm_leL (mm_le c14697) q18705 q18706
                  have q18708 := mm_ltL (h := 413) (mm_nle c18330) q18706 q18707 (by decide)
                  have q18709 := mm_leL (mm_le c14697) q18707 q18708
                  have q18710 := mm_ltL (h := 412) (mm_nle c18330) q18708 q18709 (by decide)
                  have q18711 := mm_leL (mm_le c14697) q18709 q18710
                  have q18712 := mm_ltL (h := 411) (mm_nle c18330) q18710 q18711 (by decide)
                  have q18713 := mm_leL (mm_le c14697) q18711 q18712
                  have q18714 := mm_ltL (h := 410) (mm_nle c18330) q18712 q18713 (by decide)
                  have q18715 := mm_leL (mm_le c14697) q18713 q18714
                  have q18716 := mm_ltL (h := 409) (mm_nle c18330) q18714 q18715 (by decide)
                  have q18717 := mm_leL (mm_le c14697) q18715 q18716
                  have q18718 := mm_ltL (h := 408) (mm_nle c18330) q18716 q18717 (by decide)
                  have q18719 := mm_leL (mm_le c14697) q18717 q18718
                  have q18720 := mm_ltL (h := 407) (mm_nle c18330) q18718 q18719 (by decide)
                  have q18721 := mm_leL (mm_le c14697) q18719 q18720
                  have q18722 := mm_ltL (h := 406) (mm_nle c18330) q18720 q18721 (by decide)
                  have q18723 := mm_leL (mm_le c14697) q18721 q18722
                  have q18724 := mm_ltL (h := 405) (mm_nle c18330) q18722 q18723 (by decide)
                  have q18725 := mm_leL (mm_le c14697) q18723 q18724
                  have q18726 := mm_ltL (h := 404) (mm_nle c18330) q18724 q18725 (by decide)
                  have q18727 := mm_leL (mm_le c14697) q18725 q18726
                  have q18728 := mm_ltL (h := 403) (mm_nle c18330) q18726 q18727 (by decide)
                  have q18729 := mm_leL (mm_le c14697) q18727 q18728
                  have q18730 := mm_ltL (h := 402) (mm_nle c18330) q18728 q18729 (by decide)
                  have q18731 := mm_leL (mm_le c14697) q18729 q18730
                  have q18732 := mm_ltL (h := 401) (mm_nle c18330) q18730 q18731 (by decide)
                  have q18733 := mm_leL (mm_le c14697) q18731 q18732
                  have q18734 := mm_ltL (h := 400) (mm_nle c18330) q18732 q18733 (by decide)
                  have q18735 := mm_leL (mm_le c14697) q18733 q18734
                  have q18736 := mm_ltL (h := 399) (mm_nle c18330) q18734 q18735 (by decide)
                  have q18737 := mm_leL (mm_le c14697) q18735 q18736
                  have q18738 := mm_ltL (h := 398) (mm_nle c18330) q18736 q18737 (by decide)
                  have q18739 := mm_leL (mm_le c14697) q18737 q18738
                  have q18740 := mm_ltL (h := 397) (mm_nle c18330) q18738 q18739 (by decide)
                  have q18741 := mm_leL (mm_le c14697) q18739 q18740
                  have q18742 := mm_ltL (h := 396) (mm_nle c18330) q18740 q18741 (by decide)
                  have q18743 := mm_leL (mm_le c14697) q18741 q18742
                  have q18744 := mm_ltL (h := 395) (mm_nle c18330) q18742 q18743 (by decide)
                  have q18745 := mm_leL (mm_le c14697) q18743 q18744
                  have q18746 := mm_ltL (h := 394) (mm_nle c18330) q18744 q18745 (by decide)
                  have q18747 := mm_leL (mm_le c14697) q18745 q18746
                  have q18748 := mm_ltL (h := 393) (mm_nle c18330) q18746 q18747 (by decide)
                  have q18749 := mm_leL (mm_le c14697) q18747 q18748
                  have q18750 := mm_ltL (h := 392) (mm_nle c18330) q18748 q18749 (by decide)
                  have q18751 := mm_leL (mm_le c14697) q18749 q18750
                  have q18752 := mm_ltL (h := 391) (mm_nle c18330) q18750 q18751 (by decide)
                  have q18753 := mm_leL (mm_le c14697) q18751 q18752
                  have q18754 := mm_ltL (h := 390) (mm_nle c18330) q18752 q18753 (by decide)
                  have q18755 := mm_leL (mm_le c14697) q18753 q18754
                  have q18756 := mm_ltL (h := 389) (mm_nle c18330) q18754 q18755 (by decide)
                  have q18757 := mm_leL (mm_le c14697) q18755 q18756
                  have q18758 := mm_ltL (h := 388) (mm_nle c18330) q18756 q18757 (by decide)
                  have q18759 := mm_leL (mm_le c14697) q18757 q18758
                  have q18760 := mm_ltL (h := 387) (mm_nle c18330) q18758 q18759 (by decide)
                  have q18761 := mm_leL (mm_le c14697) q18759 q18760
                  have q18762 := mm_ltL (h := 386) (mm_nle c18330) q18760 q18761 (by decide)
                  have q18763 := mm_leL (mm_le c14697) q18761 q18762
                  have q18764 := mm_ltL (h := 385) (mm_nle c18330) q18762 q18763 (by decide)
                  have q18765 := mm_leL (mm_le c14697) q18763 q18764
                  have q18766 := mm_ltL (h := 384) (mm_nle c18330) q18764 q18765 (by decide)
                  have q18767 := mm_leL (mm_le c14697) q18765 q18766
                  have q18768 := mm_ltL (h := 383) (mm_nle c18330) q18766 q18767 (by decide)
                  have q18769 := mm_leL (mm_le c14697) q18767 q18768
                  have q18770 := mm_ltL (h := 382) (mm_nle c18330) q18768 q18769 (by decide)
                  have q18771 := mm_leL (mm_le c14697) q18769 q18770
                  have q18772 := mm_ltL (h := 381) (mm_nle c18330) q18770 q18771 (by decide)
                  have q18773 := mm_leL (mm_le c14697) q18771 q18772
                  have q18774 := mm_ltL (h := 380) (mm_nle c18330) q18772 q18773 (by decide)
                  have q18775 := mm_leL (mm_le c14697) q18773 q18774
                  have q18776 := mm_ltL (h := 379) (mm_nle c18330) q18774 q18775 (by decide)
                  have q18777 := mm_leL (mm_le c14697) q18775 q18776
                  have q18778 := mm_ltL (h := 378) (mm_nle c18330) q18776 q18777 (by decide)
                  have q18779 := mm_leL (mm_le c14697) q18777 q18778
                  have q18780 := mm_ltL (h := 377) (mm_nle c18330) q18778 q18779 (by decide)
                  have q18781 := mm_leL (mm_le c14697) q18779 q18780
                  have q18782 := mm_ltL (h := 376) (mm_nle c18330) q18780 q18781 (by decide)
                  have q18783 := mm_leL (mm_le c14697) q18781 q18782
                  have q18784 := mm_ltL (h := 375) (mm_nle c18330) q18782 q18783 (by decide)
                  have q18785 := mm_leL (mm_le c14697) q18783 q18784
                  have q18786 := mm_ltL (h := 374) (mm_nle c18330) q18784 q18785 (by decide)
                  have q18787 := mm_leL (mm_le c14697) q18785 q18786
                  have q18788 := mm_ltL (h := 373) (mm_nle c18330) q18786 q18787 (by decide)
                  have q18789 := mm_leL (mm_le c14697) q18787 q18788
                  have q18790 := mm_ltL (h := 372) (mm_nle c18330) q18788 q18789 (by decide)
                  have q18791 := mm_leL (mm_le c14697) q18789 q18790
                  have q18792 := mm_ltL (h := 371) (mm_nle c18330) q18790 q18791 (by decide)
                  have q18793 := mm_leL (mm_le c14697) q18791 q18792
                  have q18794 := mm_ltL (h := 370) (mm_nle c18330) q18792 q18793 (by decide)
                  have q18795 := mm_leL (mm_le c14697) q18793 q18794
                  have q18796 := mm_ltL (h := 369) (mm_nle c18330) q18794 q18795 (by decide)
                  have q18797 := mm_leL (mm_le c14697) q18795 q18796
                  have q18798 := mm_ltL (h := 368) (mm_nle c18330) q18796 q18797 (by decide)
                  have q18799 := mm_leL (mm_le c14697) q18797 q18798
                  have q18800 := mm_ltL (h := 367) (mm_nle c18330) q18798 q18799 (by decide)
                  have q18801 := mm_leL (mm_le c14697) q18799 q18800
                  have q18802 := mm_ltL (h := 366) (mm_nle c18330) q18800 q18801 (by decide)
                  have q18803 := mm_leL (mm_le c14697) q18801 q18802
                  have q18804 := mm_ltL (h := 365) (mm_nle c18330) q18802 q18803 (by decide)
                  have q18805 := mm_leL (mm_le c14697) q18803 q18804
                  have q18806 := mm_ltL (h := 364) (mm_nle c18330) q18804 q18805 (by decide)
                  have q18807 := mm_leL (mm_le c14697) q18805 q18806
                  have q18808 := mm_ltL (h := 363) (mm_nle c18330) q18806 q18807 (by decide)
                  have q18809 := mm_leL (mm_le c14697) q18807 q18808
                  have q18810 := mm_ltL (h := 362) (mm_nle c18330) q18808 q18809 (by decide)
                  have q18811 := mm_leL (mm_le c14697) q18809 q18810
                  have q18812 := mm_ltL (h := 361) (mm_nle c18330) q18810 q18811 (by decide)
                  have q18813 := mm_leL (mm_le c14697) q18811 q18812
                  have q18814 := mm_ltL (h := 360) (mm_nle c18330) q18812 q18813 (by decide)
                  have q18815 := mm_leL (mm_le c14697) q18813 q18814
                  have q18816 := mm_ltL (h := 359) (mm_nle c18330) q18814 q18815 (by decide)
                  have q18817 := mm_leL (mm_le c14697) q18815 q18816
                  have q18818 := mm_ltL (h := 358) (mm_nle c18330) q18816 q18817 (by decide)
                  have q18819 := mm_leL (mm_le c14697) q18817 q18818
                  have q18820 := mm_ltL (h := 357) (mm_nle c18330) q18818 q18819 (by decide)
                  have q18821 := mm_leL (mm_le c14697) q18819 q18820
                  have q18822 := mm_ltL (h := 356) (mm_nle c18330) q18820 q18821 (by decide)
                  have q18823 := mm_leL (mm_le c14697) q18821 q18822
                  have q18824 := mm_ltL (h := 355) (mm_nle c18330) q18822 q18823 (by decide)
                  have q18825 := mm_leL (mm_le c14697) q18823 q18824
                  have q18826 := mm_ltL (h := 354) (mm_nle c18330) q18824 q18825 (by decide)
                  have q18827 := mm_leL (mm_le c14697) q18825 q18826
                  have q18828 := mm_ltL (h := 353) (mm_nle c18330) q18826 q18827 (by decide)
                  have q18829 := mm_leL (mm_le c14697) q18827 q18828
                  have q18830 := mm_ltL (h := 352) (mm_nle c18330) q18828 q18829 (by decide)
                  have q18831 := mm_leL (mm_le c14697) q18829 q18830
                  have q18832 := mm_ltL (h := 351) (mm_nle c18330) q18830 q18831 (by decide)
                  have q18833 := mm_leL (mm_le c14697) q18831 q18832
                  have q18834 := mm_ltL (h := 350) (mm_nle c18330) q18832 q18833 (by decide)
                  have q18835 := mm_leL (mm_le c14697) q18833 q18834
                  have q18836 := mm_ltL (h := 349) (mm_nle c18330) q18834 q18835 (by decide)
                  have q18837 := mm_leL (mm_le c14697) q18835 q18836
                  have q18838 := mm_ltL (h := 348) (mm_nle c18330) q18836 q18837 (by decide)
                  have q18839 := mm_leL (mm_le c14697) q18837 q18838
                  have q18840 := mm_ltL (h := 347) (mm_nle c18330) q18838 q18839 (by decide)
                  have q18841 := mm_leL (mm_le c14697) q18839 q18840
                  have q18842 := mm_ltL (h := 346) (mm_nle c18330) q18840 q18841 (by decide)
                  have q18843 := mm_leL (mm_le c14697) q18841 q18842
                  have q18844 := mm_ltL (h := 345) (mm_nle c18330) q18842 q18843 (by decide)
                  have q18845 := mm_leL (mm_le c14697) q18843 q18844
                  have q18846 := mm_ltL (h := 344) (mm_nle c18330) q18844 q18845 (by decide)
                  have q18847 := mm_leL (mm_le c14697) q18845 q18846
                  have q18848 := mm_ltL (h := 343) (mm_nle c18330) q18846 q18847 (by decide)
                  have q18849 := mm_leL (mm_le c14697) q18847 q18848
                  have q18850 := mm_ltL (h := 342) (mm_nle c18330) q18848 q18849 (by decide)
                  have q18851 := mm_leL (mm_le c14697) q18849 q18850
                  have q18852 := mm_ltL (h := 341) (mm_nle c18330) q18850 q18851 (by decide)
                  have q18853 := mm_leL (mm_le c14697) q18851 q18852
                  have q18854 := mm_ltL (h := 340) (mm_nle c18330) q18852 q18853 (by decide)
                  have q18855 := mm_leL (mm_le c14697) q18853 q18854
                  have q18856 := mm_ltL (h := 339) (mm_nle c18330) q18854 q18855 (by decide)
                  have q18857 := mm_leL (mm_le c14697) q18855 q18856
                  have q18858 := mm_ltL (h := 338) (mm_nle c18330) q18856 q18857 (by decide)
                  have q18859 := mm_leL (mm_le c14697) q18857 q18858
                  have q18860 := mm_ltL (h := 337) (mm_nle c18330) q18858 q18859 (by decide)
                  have q18861 := mm_leL (mm_le c14697) q18859 q18860
                  have q18862 := mm_ltL (h := 336) (mm_nle c18330) q18860 q18861 (by decide)
                  have q18863 := mm_leL (mm_le c14697) q18861 q18862
                  have q18864 := mm_ltL (h := 335) (mm_nle c18330) q18862 q18863 (by decide)
                  have q18865 := mm_leL (mm_le c14697) q18863 q18864
                  have q18866 := mm_ltL (h := 334) (mm_nle c18330) q18864 q18865 (by decide)
                  have q18867 := mm_leL (mm_le c14697) q18865 q18866
                  have q18868 := mm_ltL (h := 333) (mm_nle c18330) q18866 q18867 (by decide)
                  have q18869 := mm_leL (mm_le c14697) q18867 q18868
                  have q18870 := mm_ltL (h := 332) (mm_nle c18330) q18868 q18869 (by decide)
                  have q18871 := mm_leL (mm_le c14697) q18869 q18870
                  have q18872 := mm_ltL (h := 331) (mm_nle c18330) q18870 q18871 (by decide)
                  have q18873 := mm_leL (mm_le c14697) q18871 q18872
                  have q18874 := mm_ltL (h := 330) (mm_nle c18330) q18872 q18873 (by decide)
                  have q18875 := mm_leL (mm_le c14697) q18873 q18874
                  have q18876 := mm_ltL (h := 329) (mm_nle c18330) q18874 q18875 (by decide)
                  have q18877 := mm_leL (mm_le c14697) q18875 q18876
                  have q18878 := mm_ltL (h := 328) (mm_nle c18330) q18876 q18877 (by decide)
                  have q18879 := mm_leL (mm_le c14697) q18877 q18878
                  have q18880 := mm_ltL (h := 327) (mm_nle c18330) q18878 q18879 (by decide)
                  have q18881 := mm_leL (mm_le c14697) q18879 q18880
                  have q18882 := mm_ltL (h := 326) (mm_nle c18330) q18880 q18881 (by decide)
                  have q18883 := mm_leL (mm_le c14697) q18881 q18882
                  have q18884 := mm_ltL (h := 325) (mm_nle c18330) q18882 q18883 (by decide)
                  have q18885 := mm_leL (mm_le c14697) q18883 q18884
                  have q18886 := mm_ltL (h := 324) (mm_nle c18330) q18884 q18885 (by decide)
                  have q18887 := mm_leL (mm_le c14697) q18885 q18886
                  have q18888 := mm_ltL (h := 323) (mm_nle c18330) q18886 q18887 (by decide)
                  have q18889 := mm_leL (mm_le c14697) q18887 q18888
                  have q18890 := mm_ltL (h := 322) (mm_nle c18330) q18888 q18889 (by decide)
                  have q18891 := mm_leL (mm_le c14697) q18889 q18890
                  have q18892 := mm_ltL (h := 321) (mm_nle c18330) q18890 q18891 (by decide)
                  have q18893 := mm_leL (mm_le c14697) q18891 q18892
                  have q18894 := mm_ltL (h := 320) (mm_nle c18330) q18892 q18893 (by decide)
                  have q18895 := mm_leL (mm_le c14697) q18893 q18894
                  have q18896 := mm_ltL (h := 319) (mm_nle c18330) q18894 q18895 (by decide)
                  have q18897 := mm_leL (mm_le c14697) q18895 q18896
                  have q18898 := mm_ltL (h := 318) (mm_nle c18330) q18896 q18897 (by decide)
                  have q18899 := mm_leL (mm_le c14697) q18897 q18898
                  have q18900 := mm_ltL (h := 317) (mm_nle c18330) q18898 q18899 (by decide)
                  have q18901 := mm_leL (mm_le c14697) q18899 q18900
                  have q18902 := mm_ltL (h := 316) (mm_nle c18330) q18900 q18901 (by decide)
                  have q18903 := mm_leL (mm_le c14697) q18901 q18902
                  have q18904 := mm_ltL (h := 315) (mm_nle c18330) q18902 q18903 (by decide)
                  have q18905 := mm_leL (mm_le c14697) q18903 q18904
                  have q18906 := mm_ltL (h := 314) (mm_nle c18330) q18904 q18905 (by decide)
                  have q18907 := mm_leL (mm_le c14697) q18905 q18906
                  have q18908 := mm_ltL (h := 313) (mm_nle c18330) q18906 q18907 (by decide)
                  have q18909 := mm_leL (mm_le c14697) q18907 q18908
                  have q18910 := mm_ltL (h := 312) (mm_nle c18330) q18908 q18909 (by decide)
                  have q18911 := mm_leL (mm_le c14697) q18909 q18910
                  have q18912 := mm_ltL (h := 311) (mm_nle c18330) q18910 q18911 (by decide)
                  have q18913 := mm_leL (mm_le c14697) q18911 q18912
                  have q18914 := mm_ltL (h := 310) (mm_nle c18330) q18912 q18913 (by decide)
                  have q18915 := mm_leL (mm_le c14697) q18913 q18914
                  have q18916 := mm_ltL (h := 309) (mm_nle c18330) q18914 q18915 (by decide)
                  have q18917 := mm_leL (mm_le c14697) q18915 q18916
                  have q18918 := mm_ltL (h := 308) (mm_nle c18330) q18916 q18917 (by decide)
                  have q18919 := mm_leL (mm_le c14697) q18917 q18918
                  have q18920 := mm_ltL (h := 307) (mm_nle c18330) q18918 q18919 (by decide)
                  have q18921 := mm_leL (mm_le c14697) q18919 q18920
                  have q18922 := mm_ltL (h := 306) (mm_nle c18330) q18920 q18921 (by decide)
                  have q18923 := mm_leL (mm_le c14697) q18921 q18922
                  have q18924 := mm_ltL (h := 305) (mm_nle c18330) q18922 q18923 (by decide)
                  have q18925 := mm_leL (mm_le c14697) q18923 q18924
                  have q18926 := mm_ltL (h := 304) (mm_nle c18330) q18924 q18925 (by decide)
                  have q18927 := mm_leL (mm_le c14697) q18925 q18926
                  have q18928 := mm_ltL (h := 303) (mm_nle c18330) q18926 q18927 (by decide)
                  have q18929 := mm_leL (mm_le c14697) q18927 q18928
                  have q18930 := mm_ltL (h := 302) (mm_nle c18330) q18928 q18929 (by decide)
                  have q18931 := mm_leL (mm_le c14697) q18929 q18930
                  have q18932 := mm_ltL (h := 301) (mm_nle c18330) q18930 q18931 (by decide)
                  have q18933 := mm_leL (mm_le c14697) q18931 q18932
                  have q18934 := mm_ltL (h := 300) (mm_nle c18330) q18932 q18933 (by decide)
                  have q18935 := mm_leL (mm_le c14697) q18933 q18934
                  have q18936 := mm_ltL (h := 299) (mm_nle c18330) q18934 q18935 (by decide)
                  have q18937 := mm_leL (mm_le c14697) q18935 q18936
                  have q18938 := mm_ltL (h := 298) (mm_nle c18330) q18936 q18937 (by decide)
                  have q18939 := mm_leL (mm_le c14697) q18937 q18938
                  have q18940 := mm_ltL (h := 297) (mm_nle c18330) q18938 q18939 (by decide)
                  have q18941 := mm_leL (mm_le c14697) q18939 q18940
                  have q18942 := mm_ltL (h := 296) (mm_nle c18330) q18940 q18941 (by decide)
                  have q18943 := mm_leL (mm_le c14697) q18941 q18942
                  have q18944 := mm_ltL (h := 295) (mm_nle c18330) q18942 q18943 (by decide)
                  have q18945 := mm_leL (mm_le c14697) q18943 q18944
                  have q18946 := mm_ltL (h := 294) (mm_nle c18330) q18944 q18945 (by decide)
                  have q18947 := mm_leL (mm_le c14697) q18945 q18946
                  have q18948 := mm_ltL (h := 293) (mm_nle c18330) q18946 q18947 (by decide)
                  have q18949 := mm_leL (mm_le c14697) q18947 q18948
                  have q18950 := mm_ltL (h := 292) (mm_nle c18330) q18948 q18949 (by decide)
                  have q18951 := mm_leL (mm_le c14697) q18949 q18950
                  have q18952 := mm_ltL (h := 291) (mm_nle c18330) q18950 q18951 (by decide)
                  have q18953 := mm_leL (mm_le c14697) q18951 q18952
                  have q18954 := mm_ltL (h := 290) (mm_nle c18330) q18952 q18953 (by decide)
                  have q18955 := mm_leL (mm_le c14697) q18953 q18954
                  have q18956 := mm_ltL (h := 289) (mm_nle c18330) q18954 q18955 (by decide)
                  have q18957 := mm_leL (mm_le c14697) q18955 q18956
                  have q18958 := mm_ltL (h := 288) (mm_nle c18330) q18956 q18957 (by decide)
                  have q18959 := mm_leL (mm_le c14697) q18957 q18958
                  have q18960 := mm_ltL (h := 287) (mm_nle c18330) q18958 q18959 (by decide)
                  have q18961 := mm_leL (mm_le c14697) q18959 q18960
                  have q18962 := mm_ltL (h := 286) (mm_nle c18330) q18960 q18961 (by decide)
                  have q18963 := mm_leL (mm_le c14697) q18961 q18962
                  have q18964 := mm_ltL (h := 285) (mm_nle c18330) q18962 q18963 (by decide)
                  have q18965 := mm_leL (mm_le c14697) q18963 q18964
                  have q18966 := mm_ltL (h := 284) (mm_nle c18330) q18964 q18965 (by decide)
                  have q18967 := mm_leL (mm_le c14697) q18965 q18966
                  have q18968 := mm_ltL (h := 283) (mm_nle c18330) q18966 q18967 (by decide)
                  have q18969 := mm_leL (mm_le c14697) q18967 q18968
                  have q18970 := mm_ltL (h := 282) (mm_nle c18330) q18968 q18969 (by decide)
                  have q18971 := mm_leL (mm_le c14697) q18969 q18970
                  have q18972 := mm_ltL (h := 281) (mm_nle c18330) q18970 q18971 (by decide)
                  have q18973 := mm_leL (mm_le c14697) q18971 q18972
                  have q18974 := mm_ltL (h := 280) (mm_nle c18330) q18972 q18973 (by decide)
                  have q18975 := mm_leL (mm_le c14697) q18973 q18974
                  have q18976 := mm_ltL (h := 279) (mm_nle c18330) q18974 q18975 (by decide)
                  have q18977 := mm_leL (mm_le c14697) q18975 q18976
                  have q18978 := mm_ltL (h := 278) (mm_nle c18330) q18976 q18977 (by decide)
                  have q18979 := mm_leL (mm_le c14697) q18977 q18978
                  have q18980 := mm_ltL (h := 277) (mm_nle c18330) q18978 q18979 (by decide)
                  have q18981 := mm_leL (mm_le c14697) q18979 q18980
                  have q18982 := mm_ltL (h := 276) (mm_nle c18330) q18980 q18981 (by decide)
                  have q18983 := mm_leL (mm_le c14697) q18981 q18982
                  have q18984 := mm_ltL (h := 275) (mm_nle c18330) q18982 q18983 (by decide)
                  have q18985 := mm_leL (mm_le c14697) q18983 q18984
                  have q18986 := mm_ltL (h := 274) (mm_nle c18330) q18984 q18985 (by decide)
                  have q18987 := mm_leL (mm_le c14697) q18985 q18986
                  have q18988 := mm_ltL (h := 273) (mm_nle c18330) q18986 q18987 (by decide)
                  have q18989 := mm_leL (mm_le c14697) q18987 q18988
                  have q18990 := mm_ltL (h := 272) (mm_nle c18330) q18988 q18989 (by decide)
                  have q18991 := mm_leL (mm_le c14697) q18989 q18990
                  have q18992 := mm_ltL (h := 271) (mm_nle c18330) q18990 q18991 (by decide)
                  have q18993 := mm_leL (mm_le c14697) q18991 q18992
                  have q18994 := mm_ltL (h := 270) (mm_nle c18330) q18992 q18993 (by decide)
                  have q18995 := mm_leL (mm_le c14697) q18993 q18994
                  have q18996 := mm_ltL (h := 269) (mm_nle c18330) q18994 q18995 (by decide)
                  have q18997 := mm_leL (mm_le c14697) q18995 q18996
                  have q18998 := mm_ltL (h := 268) (mm_nle c18330) q18996 q18997 (by decide)
                  have q18999 := mm_leL (mm_le c14697) q18997 q18998
                  have q19000 := mm_ltL (h := 267) (mm_nle c18330) q18998 q18999 (by decide)
                  have q19001 := mm_leL (mm_le c14697) q18999 q19000
                  have q19002 := mm_ltL (h := 266) (mm_nle c18330) q19000 q19001 (by decide)
                  have q19003 := mm_leL (mm_le c14697) q19001 q19002
                  have q19004 := mm_ltL (h := 265) (mm_nle c18330) q19002 q19003 (by decide)
                  have q19005 := mm_leL (mm_le c14697) q19003 q19004
                  have q19006 := mm_ltL (h := 264) (mm_nle c18330) q19004 q19005 (by decide)
                  have q19007 := mm_leL (mm_le c14697) q19005 q19006
                  have q19008 := mm_ltL (h := 263) (mm_nle c18330) q19006 q19007 (by decide)
                  have q19009 := mm_leL (mm_le c14697) q19007 q19008
                  have q19010 := mm_ltL (h := 262) (mm_nle c18330) q19008 q19009 (by decide)
                  have q19011 := mm_leL (mm_le c14697) q19009 q19010
                  have q19012 := mm_ltL (h := 261) (mm_nle c18330) q19010 q19011 (by decide)
                  have q19013 := mm_leL (mm_le c14697) q19011 q19012
                  have q19014 := mm_ltL (h := 260) (mm_nle c18330) q19012 q19013 (by decide)
                  have q19015 := mm_leL (mm_le c14697) q19013 q19014
                  have q19016 := mm_ltL (h := 259) (mm_nle c18330) q19014 q19015 (by decide)
                  have q19017 := mm_leL (mm_le c14697) q19015 q19016
                  have q19018 := mm_ltL (h := 258) (mm_nle c18330) q19016 q19017 (by decide)
                  have q19019 := mm_leL (mm_le c14697) q19017 q19018
                  have q19020 := mm_ltL (h := 257) (mm_nle c18330) q19018 q19019 (by decide)
                  have q19021 := mm_leL (mm_le c14697) q19019 q19020
                  have q19022 := mm_ltL (h := 256) (mm_nle c18330) q19020 q19021 (by decide)
                  have q19023 := mm_leL (mm_le c14697) q19021 q19022
                  have q19024 := mm_ltL (h := 255) (mm_nle c18330) q19022 q19023 (by decide)
                  have q19025 := mm_leL (mm_le c14697) q19023 q19024
                  have q19026 := mm_ltL (h := 254) (mm_nle c18330) q19024 q19025 (by decide)
                  have q19027 := mm_leL (mm_le c14697) q19025 q19026
                  have q19028 := mm_ltL (h := 253) (mm_nle c18330) q19026 q19027 (by decide)
                  have q19029 := mm_leL (mm_le c14697) q19027 q19028
                  have q19030 := mm_ltL (h := 252) (mm_nle c18330) q19028 q19029 (by decide)
                  have q19031 := mm_leL (mm_le c14697) q19029 q19030
                  have q19032 := mm_ltL (h := 251) (mm_nle c18330) q19030 q19031 (by decide)
                  have q19033 := mm_leL (mm_le c14697) q19031 q19032
                  have q19034 := mm_ltL (h := 250) (mm_nle c18330) q19032 q19033 (by decide)
                  have q19035 := mm_leL (mm_le c14697) q19033 q19034
                  have q19036 := mm_ltL (h := 249) (mm_nle c18330) q19034 q19035 (by decide)
                  have q19037 := mm_leL (mm_le c14697) q19035 q19036
                  have q19038 := mm_ltL (h := 248) (mm_nle c18330) q19036 q19037 (by decide)
                  have q19039 := mm_leL (mm_le c14697) q19037 q19038
                  have q19040 := mm_ltL (h := 247) (mm_nle c18330) q19038 q19039 (by decide)
                  have q19041 := mm_leL (mm_le c14697) q19039 q19040
                  have q19042 := mm_ltL (h := 246) (mm_nle c18330) q19040 q19041 (by decide)
                  have q19043 := mm_leL (mm_le c14697) q19041 q19042
                  have q19044 := mm_ltL (h := 245) (mm_nle c18330) q19042 q19043 (by decide)
                  have q19045 := mm_leL (mm_le c14697) q19043 q19044
                  have q19046 := mm_ltL (h := 244) (mm_nle c18330) q19044 q19045 (by decide)
                  have q19047 := mm_leL (mm_le c14697) q19045 q19046
                  have q19048 := mm_ltL (h := 243) (mm_nle c18330) q19046 q19047 (by decide)
                  have q19049 := mm_leL (mm_le c14697) q19047 q19048
                  have q19050 := mm_ltL (h := 242) (mm_nle c18330) q19048 q19049 (by decide)
                  have q19051 := mm_leL (mm_le c14697) q19049 q19050
                  have q19052 := mm_ltL (h := 241) (mm_nle c18330) q19050 q19051 (by decide)
                  have q19053 := mm_leL (mm_le c14697) q19051 q19052
                  have q19054 := mm_ltL (h := 240) (mm_nle c18330) q19052 q19053 (by decide)
                  have q19055 := mm_leL (mm_le c14697) q19053 q19054
                  have q19056 := mm_ltL (h := 239) (mm_nle c18330) q19054 q19055 (by decide)
                  have q19057 := mm_leL (mm_le c14697) q19055 q19056
                  have q19058 := mm_ltL (h := 238) (mm_nle c18330) q19056 q19057 (by decide)
                  have q19059 := mm_leL (mm_le c14697) q19057 q19058
                  have q19060 := mm_ltL (h := 237) (mm_nle c18330) q19058 q19059 (by decide)
                  have q19061 := mm_leL (mm_le c14697) q19059 q19060
                  have q19062 := mm_ltL (h := 236) (mm_nle c18330) q19060 q19061 (by decide)
                  have q19063 := mm_leL (mm_le c14697) q19061 q19062
                  have q19064 := mm_ltL (h := 235) (mm_nle c18330) q19062 q19063 (by decide)
                  have q19065 := mm_leL (mm_le c14697) q19063 q19064
                  have q19066 := mm_ltL (h := 234) (mm_nle c18330) q19064 q19065 (by decide)
                  have q19067 := mm_leL (mm_le c14697) q19065 q19066
                  have q19068 := mm_ltL (h := 233) (mm_nle c18330) q19066 q19067 (by decide)
                  have q19069 := mm_leL (mm_le c14697) q19067 q19068
                  have q19070 := mm_ltL (h := 232) (mm_nle c18330) q19068 q19069 (by decide)
                  have q19071 := mm_leL (mm_le c14697) q19069 q19070
                  have q19072 := mm_ltL (h := 231) (mm_nle c18330) q19070 q19071 (by decide)
                  have q19073 := mm_leL (mm_le c14697) q19071 q19072
                  have q19074 := mm_ltL (h := 230) (mm_nle c18330) q19072 q19073 (by decide)
                  have q19075 := mm_leL (mm_le c14697) q19073 q19074
                  have q19076 := mm_ltL (h := 229) (mm_nle c18330) q19074 q19075 (by decide)
                  have q19077 := mm_leL (mm_le c14697) q19075 q19076
                  have q19078 := mm_ltL (h := 228) (mm_nle c18330) q19076 q19077 (by decide)
                  have q19079 := mm_leL (mm_le c14697) q19077 q19078
                  have q19080 := mm_ltL (h := 227) (mm_nle c18330) q19078 q19079 (by decide)
                  have q19081 := mm_leL (mm_le c14697) q19079 q19080
                  have q19082 := mm_ltL (h := 226) (mm_nle c18330) q19080 q19081 (by decide)
                  have q19083 := mm_leL (mm_le c14697) q19081 q19082
                  have q19084 := mm_ltL (h := 225) (mm_nle c18330) q19082 q19083 (by decide)
                  have q19085 := mm_leL (mm_le c14697) q19083 q19084
                  have q19086 := mm_ltL (h := 224) (mm_nle c18330) q19084 q19085 (by decide)
                  have q19087 := mm_leL (mm_le c14697) q19085 q19086
                  have q19088 := mm_ltL (h := 223) (mm_nle c18330) q19086 q19087 (by decide)
                  have q19089 := mm_leL (mm_le c14697) q19087 q19088
                  have q19090 := mm_ltL (h := 222) (mm_nle c18330) q19088 q19089 (by decide)
                  have q19091 := mm_leL (mm_le c14697) q19089 q19090
                  have q19092 := mm_ltL (h := 221) (mm_nle c18330) q19090 q19091 (by decide)
                  have q19093 := mm_leL (mm_le c14697) q19091 q19092
                  have q19094 := mm_ltL (h := 220) (mm_nle c18330) q19092 q19093 (by decide)
                  have q19095 := mm_leL (mm_le c14697) q19093 q19094
                  have q19096 := mm_ltL (h := 219) (mm_nle c18330) q19094 q19095 (by decide)
                  have q19097 := mm_leL (mm_le c14697) q19095 q19096
                  have q19098 := mm_ltL (h := 218) (mm_nle c18330) q19096 q19097 (by decide)
                  have q19099 := mm_leL (mm_le c14697) q19097 q19098
                  have q19100 := mm_ltL (h := 217) (mm_nle c18330) q19098 q19099 (by decide)
                  have q19101 := mm_leL (mm_le c14697) q19099 q19100
                  have q19102 := mm_ltL (h := 216) (mm_nle c18330) q19100 q19101 (by decide)
                  have q19103 := mm_leL (mm_le c14697) q19101 q19102
                  have q19104 := mm_ltL (h := 215) (mm_nle c18330) q19102 q19103 (by decide)
                  have q19105 := mm_leL (mm_le c14697) q19103 q19104
                  have q19106 := mm_ltL (h := 214) (mm_nle c18330) q19104 q19105 (by decide)
                  have q19107 := mm_leL (mm_le c14697) q19105 q19106
                  have q19108 := mm_ltL (h := 213) (mm_nle c18330) q19106 q19107 (by decide)
                  have q19109 := mm_leL (mm_le c14697) q19107 q19108
                  have q19110 := mm_ltL (h := 212) (mm_nle c18330) q19108 q19109 (by decide)
                  have q19111 := mm_leL (mm_le c14697) q19109 q19110
                  have q19112 := mm_ltL (h := 211) (mm_nle c18330) q19110 q19111 (by decide)
                  have q19113 := mm_leL (mm_le c14697) q19111 q19112
                  have q19114 := mm_ltL (h := 210) (mm_nle c18330) q19112 q19113 (by decide)
                  have q19115 := mm_leL (mm_le c14697) q19113 q19114
                  have q19116 := mm_ltL (h := 209) (mm_nle c18330) q19114 q19115 (by decide)
                  have q19117 := mm_leL (mm_le c14697) q19115 q19116
                  have q19118 := mm_ltL (h := 208) (mm_nle c18330) q19116 q19117 (by decide)
                  have q19119 := mm_leL (mm_le c14697) q19117 q19118
                  have q19120 := mm_ltL (h := 207) (mm_nle c18330) q19118 q19119 (by decide)
                  have q19121 := mm_leL (mm_le c14697) q19119 q19120
                  have q19122 := mm_ltL (h := 206) (mm_nle c18330) q19120 q19121 (by decide)
                  have q19123 := mm_leL (mm_le c14697) q19121 q19122
                  have q19124 := mm_ltL (h := 205) (mm_nle c18330) q19122 q19123 (by decide)
                  have q19125 := mm_leL (mm_le c14697) q19123 q19124
                  have q19126 := mm_ltL (h := 204) (mm_nle c18330) q19124 q19125 (by decide)
                  have q19127 := mm_leL (mm_le c14697) q19125 q19126
                  have q19128 := mm_ltL (h := 203) (mm_nle c18330) q19126 q19127 (by decide)
                  have q19129 := mm_leL (mm_le c14697) q19127 q19128
                  have q19130 := mm_ltL (h := 202) (mm_nle c18330) q19128 q19129 (by decide)
                  have q19131 := mm_leL (mm_le c14697) q19129 q19130
                  have q19132 := mm_ltL (h := 201) (mm_nle c18330) q19130 q19131 (by decide)
                  have q19133 := mm_leL (mm_le c14697) q19131 q19132
                  have q19134 := mm_ltL (h := 200) (mm_nle c18330) q19132 q19133 (by decide)
                  have q19135 := mm_leL (mm_le c14697) q19133 q19134
                  have q19136 := mm_ltL (h := 199) (mm_nle c18330) q19134 q19135 (by decide)
                  have q19137 := mm_leL (mm_le c14697) q19135 q19136
                  have q19138 := mm_ltL (h := 198) (mm_nle c18330) q19136 q19137 (by decide)
                  have q19139 := mm_leL (mm_le c14697) q19137 q19138
                  have q19140 := mm_ltL (h := 197) (mm_nle c18330) q19138 q19139 (by decide)
                  have q19141 := mm_leL (mm_le c14697) q19139 q19140
                  have q19142 := mm_ltL (h := 196) (mm_nle c18330) q19140 q19141 (by decide)
                  have q19143 := mm_leL (mm_le c14697) q19141 q19142
                  have q19144 := mm_ltL (h := 195) (mm_nle c18330) q19142 q19143 (by decide)
                  have q19145 := mm_leL (mm_le c14697) q19143 q19144
                  have q19146 := mm_ltL (h := 194) (mm_nle c18330) q19144 q19145 (by decide)
                  have q19147 := mm_leL (mm_le c14697) q19145 q19146
                  have q19148 := mm_ltL (h := 193) (mm_nle c18330) q19146 q19147 (by decide)
                  have q19149 := mm_leL (mm_le c14697) q19147 q19148
                  have q19150 := mm_ltL (h := 192) (mm_nle c18330) q19148 q19149 (by decide)
                  have q19151 := mm_leL (mm_le c14697) q19149 q19150
                  have q19152 := mm_ltL (h := 191) (mm_nle c18330) q19150 q19151 (by decide)
                  have q19153 := mm_leL (mm_le c14697) q19151 q19152
                  have q19154 := mm_ltL (h := 190) (mm_nle c18330) q19152 q19153 (by decide)
                  have q19155 := mm_leL (mm_le c14697) q19153 q19154
                  have q19156 := mm_ltL (h := 189) (mm_nle c18330) q19154 q19155 (by decide)
                  have q19157 := mm_leL (mm_le c14697) q19155 q19156
                  have q19158 := mm_ltL (h := 188) (mm_nle c18330) q19156 q19157 (by decide)
                  have q19159 := mm_leL (mm_le c14697) q19157 q19158
                  have q19160 := mm_ltL (h := 187) (mm_nle c18330) q19158 q19159 (by decide)
                  have q19161 := mm_leL (mm_le c14697) q19159 q19160
                  have q19162 := mm_ltL (h := 186) (mm_nle c18330) q19160 q19161 (by decide)
                  have q19163 := mm_leL (mm_le c14697) q19161 q19162
                  have q19164 := mm_ltL (h := 185) (mm_nle c18330) q19162 q19163 (by decide)
                  have q19165 := mm_leL (mm_le c14697) q19163 q19164
                  have q19166 := mm_ltL (h := 184) (mm_nle c18330) q19164 q19165 (by decide)
                  have q19167 := mm_leL (mm_le c14697) q19165 q19166
                  have q19168 := mm_ltL (h := 183) (mm_nle c18330) q19166 q19167 (by decide)
                  have q19169 := mm_leL (mm_le c14697) q19167 q19168
                  have q19170 := mm_ltL (h := 182) (mm_nle c18330) q19168 q19169 (by decide)
                  have q19171 := mm_leL (mm_le c14697) q19169 q19170
                  have q19172 := mm_ltL (h := 181) (mm_nle c18330) q19170 q19171 (by decide)
                  have q19173 := mm_leL (mm_le c14697) q19171 q19172
                  have q19174 := mm_ltL (h := 180) (mm_nle c18330) q19172 q19173 (by decide)
                  have q19175 := mm_leL (mm_le c14697) q19173 q19174
                  have q19176 := mm_ltL (h := 179) (mm_nle c18330) q19174 q19175 (by decide)
                  have q19177 := mm_leL (mm_le c14697) q19175 q19176
                  have q19178 := mm_ltL (h := 178) (mm_nle c18330) q19176 q19177 (by decide)
                  have q19179 := mm_leL (mm_le c14697) q19177 q19178
                  have q19180 := mm_ltL (h := 177) (mm_nle c18330) q19178 q19179 (by decide)
                  have q19181 := mm_leL (mm_le c14697) q19179 q19180
                  have q19182 := mm_ltL (h := 176) (mm_nle c18330) q19180 q19181 (by decide)
                  have q19183 := mm_leL (mm_le c14697) q19181 q19182
                  have q19184 := mm_ltL (h := 175) (mm_nle c18330) q19182 q19183 (by decide)
                  have q19185 := mm_leL (mm_le c14697) q19183 q19184
                  have q19186 := mm_ltL (h := 174) (mm_nle c18330) q19184 q19185 (by decide)
                  have q19187 := mm_leL (mm_le c14697) q19185 q19186
                  have q19188 := mm_ltL (h := 173) (mm_nle c18330) q19186 q19187 (by decide)
                  have q19189 := mm_leL (mm_le c14697) q19187 q19188
                  have q19190 := mm_ltL (h := 172) (mm_nle c18330) q19188 q19189 (by decide)
                  have q19191 := mm_leL (mm_le c14697) q19189 q19190
                  have q19192 := mm_ltL (h := 171) (mm_nle c18330) q19190 q19191 (by decide)
                  have q19193 := mm_leL (mm_le c14697) q19191 q19192
                  have q19194 := mm_ltL (h := 170) (mm_nle c18330) q19192 q19193 (by decide)
                  have q19195 := mm_leL (mm_le c14697) q19193 q19194
                  have q19196 := mm_ltL (h := 169) (mm_nle c18330) q19194 q19195 (by decide)
                  have q19197 := mm_leL (mm_le c14697) q19195 q19196
                  have q19198 := mm_ltL (h := 168) (mm_nle c18330) q19196 q19197 (by decide)
                  have q19199 := mm_leL (mm_le c14697) q19197 q19198
                  have q19200 := mm_ltL (h := 167) (mm_nle c18330) q19198 q19199 (by decide)
                  have q19201 := mm_leL (mm_le c14697) q19199 q19200
                  have q19202 := mm_ltL (h := 166) (mm_nle c18330) q19200 q19201 (by decide)
                  have q19203 := mm_leL (mm_le c14697) q19201 q19202
                  have q19204 := mm_ltL (h := 165) (mm_nle c18330) q19202 q19203 (by decide)
                  have q19205 := mm_leL (mm_le c14697) q19203 q19204
                  have q19206 := mm_ltL (h := 164) (mm_nle c18330) q19204 q19205 (by decide)
                  have q19207 := mm_leL (mm_le c14697) q19205 q19206
                  have q19208 := mm_ltL (h := 163) (mm_nle c18330) q19206 q19207 (by decide)
                  have q19209 := mm_leL (mm_le c14697) q19207 q19208
                  have q19210 := mm_ltL (h := 162) (mm_nle c18330) q19208 q19209 (by decide)
                  have q19211 := mm_leL (mm_le c14697) q19209 q19210
                  have q19212 := mm_ltL (h := 161) (mm_nle c18330) q19210 q19211 (by decide)
                  have q19213 := mm_leL (mm_le c14697) q19211 q19212
                  have q19214 := mm_ltL (h := 160) (mm_nle c18330) q19212 q19213 (by decide)
                  have q19215 := mm_leL (mm_le c14697) q19213 q19214
                  have q19216 := mm_ltL (h := 159) (mm_nle c18330) q19214 q19215 (by decide)
                  have q19217 := mm_leL (mm_le c14697) q19215 q19216
                  have q19218 := mm_ltL (h := 158) (mm_nle c18330) q19216 q19217 (by decide)
                  have q19219 := mm_leL (mm_le c14697) q19217 q19218
                  have q19220 := mm_ltL (h := 157) (mm_nle c18330) q19218 q19219 (by decide)
                  have q19221 := mm_leL (mm_le c14697) q19219 q19220
                  have q19222 := mm_ltL (h := 156) (mm_nle c18330) q19220 q19221 (by decide)
                  have q19223 := mm_leL (mm_le c14697) q19221 q19222
                  have q19224 := mm_ltL (h := 155) (mm_nle c18330) q19222 q19223 (by decide)
                  have q19225 := mm_leL (mm_le c14697) q19223 q19224
                  have q19226 := mm_ltL (h := 154) (mm_nle c18330) q19224 q19225 (by decide)
                  have q19227 := mm_leL (mm_le c14697) q19225 q19226
                  have q19228 := mm_ltL (h := 153) (mm_nle c18330) q19226 q19227 (by decide)
                  have q19229 := mm_leL (mm_le c14697) q19227 q19228
                  have q19230 := mm_ltL (h := 152) (mm_nle c18330) q19228 q19229 (by decide)
                  have q19231 := mm_leL (mm_le c14697) q19229 q19230
                  have q19232 := mm_ltL (h := 151) (mm_nle c18330) q19230 q19231 (by decide)
                  have q19233 := mm_leL (mm_le c14697) q19231 q19232
                  have q19234 := mm_ltL (h := 150) (mm_nle c18330) q19232 q19233 (by decide)
                  have q19235 := mm_leL (mm_le c14697) q19233 q19234
                  have q19236 := mm_ltL (h := 149) (mm_nle c18330) q19234 q19235 (by decide)
                  have q19237 := mm_leL (mm_le c14697) q19235 q19236
                  have q19238 := mm_ltL (h := 148) (mm_nle c18330) q19236 q19237 (by decide)
                  have q19239 := mm_leL (mm_le c14697) q19237 q19238
                  have q19240 := mm_ltL (h := 147) (mm_nle c18330) q19238 q19239 (by decide)
                  have q19241 := mm_leL (mm_le c14697) q19239 q19240
                  have q19242 := mm_ltL (h := 146) (mm_nle c18330) q19240 q19241 (by decide)
                  have q19243 := mm_leL (mm_le c14697) q19241 q19242
                  have q19244 := mm_ltL (h := 145) (mm_nle c18330) q19242 q19243 (by decide)
                  have q19245 := mm_leL (mm_le c14697) q19243 q19244
                  have q19246 := mm_ltL (h := 144) (mm_nle c18330) q19244 q19245 (by decide)
                  have q19247 := mm_leL (mm_le c14697) q19245 q19246
                  have q19248 := mm_ltL (h := 143) (mm_nle c18330) q19246 q19247 (by decide)
                  have q19249 := mm_leL (mm_le c14697) q19247 q19248
                  have q19250 := mm_ltL (h := 142) (mm_nle c18330) q19248 q19249 (by decide)
                  have q19251 := mm_leL (mm_le c14697) q19249 q19250
                  have q19252 := mm_ltL (h := 141) (mm_nle c18330) q19250 q19251 (by decide)
                  have q19253 := mm_leL (mm_le c14697) q19251 q19252
                  have q19254 := mm_ltL (h := 140) (mm_nle c18330) q19252 q19253 (by decide)
                  have q19255 := mm_leL (mm_le c14697) q19253 q19254
                  have q19256 := mm_ltL (h := 139) (mm_nle c18330) q19254 q19255 (by decide)
                  have q19257 := mm_leL (mm_le c14697) q19255 q19256
                  have q19258 := mm_ltL (h := 138) (mm_nle c18330) q19256 q19257 (by decide)
                  have q19259 := mm_leL (mm_le c14697) q19257 q19258
                  have q19260 := mm_ltL (h := 137) (mm_nle c18330) q19258 q19259 (by decide)
                  have q19261 := mm_leL (mm_le c14697) q19259 q19260
                  have q19262 := mm_ltL (h := 136) (mm_nle c18330) q19260 q19261 (by decide)
                  have q19263 := mm_leL (mm_le c14697) q19261 q19262
                  have q19264 := mm_ltL (h := 135) (mm_nle c18330) q19262 q19263 (by decide)
                  have q19265 := mm_leL (mm_le c14697) q19263 q19264
                  have q19266 := mm_ltL (h := 134) (mm_nle c18330) q19264 q19265 (by decide)
                  have q19267 := mm_leL (mm_le c14697) q19265 q19266
                  have q19268 := mm_ltL (h := 133) (mm_nle c18330) q19266 q19267 (by decide)
                  have q19269 := mm_leL (mm_le c14697) q19267 q19268
                  have q19270 := mm_ltL (h := 132) (mm_nle c18330) q19268 q19269 (by decide)
                  have q19271 := mm_leL (mm_le c14697) q19269 q19270
                  have q19272 := mm_ltL (h := 131) (mm_nle c18330) q19270 q19271 (by decide)
                  have q19273 := mm_leL (mm_le c14697) q19271 q19272
                  have q19274 := mm_ltL (h := 130) (mm_nle c18330) q19272 q19273 (by decide)
                  have q19275 := mm_leL (mm_le c14697) q19273 q19274
                  have q19276 := mm_ltL (h := 129) (mm_nle c18330) q19274 q19275 (by decide)
                  have q19277 := mm_leL (mm_le c14697) q19275 q19276
                  have q19278 := mm_ltL (h := 128) (mm_nle c18330) q19276 q19277 (by decide)
                  have q19279 := mm_leL (mm_le c14697) q19277 q19278
                  have q19280 := mm_ltL (h := 127) (mm_nle c18330) q19278 q19279 (by decide)
                  have q19281 := mm_leL (mm_le c14697) q19279 q19280
                  have q19282 := mm_ltL (h := 126) (mm_nle c18330) q19280 q19281 (by decide)
                  have q19283 := mm_leL (mm_le c14697) q19281 q19282
                  have q19284 := mm_ltL (h := 125) (mm_nle c18330) q19282 q19283 (by decide)
                  have q19285 := mm_leL (mm_le c14697) q19283 q19284
                  have q19286 := mm_ltL (h := 124) (mm_nle c18330) q19284 q19285 (by decide)
                  have q19287 := mm_leL (mm_le c14697) q19285 q19286
                  have q19288 := mm_ltL (h := 123) (mm_nle c18330) q19286 q19287 (by decide)
                  have q19289 := mm_leL (mm_le c14697) q19287 q19288
                  have q19290 := mm_ltL (h := 122) (mm_nle c18330) q19288 q19289 (by decide)
                  have q19291 := mm_leL (mm_le c14697) q19289 q19290
                  have q19292 := mm_ltL (h := 121) (mm_nle c18330) q19290 q19291 (by decide)
                  have q19293 := mm_leL (mm_le c14697) q19291 q19292
                  have q19294 := mm_ltL (h := 120) (mm_nle c18330) q19292 q19293 (by decide)
                  have q19295 := mm_leL (mm_le c14697) q19293 q19294
                  have q19296 := mm_ltL (h := 119) (mm_nle c18330) q19294 q19295 (by decide)
                  have q19297 := mm_leL (mm_le c14697) q19295 q19296
                  have q19298 := mm_ltL (h := 118) (mm_nle c18330) q19296 q19297 (by decide)
                  have q19299 := mm_leL (mm_le c14697) q19297 q19298
                  have q19300 := mm_ltL (h := 117) (mm_nle c18330) q19298 q19299 (by decide)
                  have q19301 := mm_leL (mm_le c14697) q19299 q19300
                  have q19302 := mm_ltL (h := 116) (mm_nle c18330) q19300 q19301 (by decide)
                  have q19303 := mm_leL (mm_le c14697) q19301 q19302
                  have q19304 := mm_ltL (h := 115) (mm_nle c18330) q19302 q19303 (by decide)
                  have q19305 := mm_leL (mm_le c14697) q19303 q19304
                  have q19306 := mm_ltL (h := 114) (mm_nle c18330) q19304 q19305 (by decide)
                  have q19307 := mm_leL (mm_le c14697) q19305 q19306
                  have q19308 := mm_ltL (h := 113) (mm_nle c18330) q19306 q19307 (by decide)
                  have q19309 := mm_leL (mm_le c14697) q19307 q19308
                  have q19310 := mm_ltL (h := 112) (mm_nle c18330) q19308 q19309 (by decide)
                  have q19311 := mm_leL (mm_le c14697) q19309 q19310
                  have q19312 := mm_ltL (h := 111) (mm_nle c18330) q19310 q19311 (by decide)
                  have q19313 := mm_leL (mm_le c14697) q19311 q19312
                  have q19314 := mm_ltL (h := 110) (mm_nle c18330) q19312 q19313 (by decide)
                  have q19315 := mm_leL (mm_le c14697) q19313 q19314
                  have q19316 := mm_ltL (h := 109) (mm_nle c18330) q19314 q19315 (by decide)
                  have q19317 := mm_leL (mm_le c14697) q19315 q19316
                  have q19318 := mm_ltL (h := 108) (mm_nle c18330) q19316 q19317 (by decide)
                  have q19319 := mm_leL (mm_le c14697) q19317 q19318
                  have q19320 := mm_ltL (h := 107) (mm_nle c18330) q19318 q19319 (by decide)
                  have q19321 := mm_leL (mm_le c14697) q19319 q19320
                  have q19322 := mm_ltL (h := 106) (mm_nle c18330) q19320 q19321 (by decide)
                  have q19323 := mm_leL (mm_le c14697) q19321 q19322
                  have q19324 := mm_ltL (h := 105) (mm_nle c18330) q19322 q19323 (by decide)
                  have q19325 := mm_leL (mm_le c14697) q19323 q19324
                  have q19326 := mm_ltL (h := 104) (mm_nle c18330) q19324 q19325 (by decide)
                  have q19327 := mm_leL (mm_le c14697) q19325 q19326
                  have q19328 := mm_ltL (h := 103) (mm_nle c18330) q19326 q19327 (by decide)
                  have q19329 := mm_leL (mm_le c14697) q19327 q19328
                  have q19330 := mm_ltL (h := 102) (mm_nle c18330) q19328 q19329 (by decide)
                  have q19331 := mm_leL (mm_le c14697) q19329 q19330
                  have q19332 := mm_ltL (h := 101) (mm_nle c18330) q19330 q19331 (by decide)
                  have q19333 := mm_leL (mm_le c14697) q19331 q19332
                  have q19334 := mm_ltL (h := 100) (mm_nle c18330) q19332 q19333 (by decide)
                  have q19335 := mm_leL (mm_le c14697) q19333 q19334
                  have q19336 := mm_ltL (h := 99) (mm_nle c18330) q19334 q19335 (by decide)
                  have q19337 := mm_leL (mm_le c14697) q19335 q19336
                  have q19338 := mm_ltL (h := 98) (mm_nle c18330) q19336 q19337 (by decide)
                  have q19339 := mm_leL (mm_le c14697) q19337 q19338
                  have q19340 := mm_ltL (h := 97) (mm_nle c18330) q19338 q19339 (by decide)
                  have q19341 := mm_leL (mm_le c14697) q19339 q19340
                  have q19342 := mm_ltL (h := 96) (mm_nle c18330) q19340 q19341 (by decide)
                  have q19343 := mm_leL (mm_le c14697) q19341 q19342
                  have q19344 := mm_ltL (h := 95) (mm_nle c18330) q19342 q19343 (by decide)
                  have q19345 := mm_leL (mm_le c14697) q19343 q19344
                  have q19346 := mm_ltL (h := 94) (mm_nle c18330) q19344 q19345 (by decide)
                  have q19347 := mm_leL (mm_le c14697) q19345 q19346
                  have q19348 := mm_ltL (h := 93) (mm_nle c18330) q19346 q19347 (by decide)
                  have q19349 := mm_leL (mm_le c14697) q19347 q19348
                  have q19350 := mm_ltL (h := 92) (mm_nle c18330) q19348 q19349 (by decide)
                  have q19351 := mm_leL (mm_le c14697) q19349 q19350
                  have q19352 := mm_ltL (h := 91) (mm_nle c18330) q19350 q19351 (by decide)
                  have q19353 := mm_leL (mm_le c14697) q19351 q19352
                  have q19354 := mm_ltL (h := 90) (mm_nle c18330) q19352 q19353 (by decide)
                  have q19355 := mm_leL (mm_le c14697) q19353 q19354
                  have q19356 := mm_ltL (h := 89) (mm_nle c18330) q19354 q19355 (by decide)
                  have q19357 := mm_leL (mm_le c14697) q19355 q19356
                  have q19358 := mm_ltL (h := 88) (mm_nle c18330) q19356 q19357 (by decide)
                  have q19359 := mm_leL (mm_le c14697) q19357 q19358
                  have q19360 := mm_ltL (h := 87) (mm_nle c18330) q19358 q19359 (by decide)
                  have q19361 := mm_leL (mm_le c14697) q19359 q19360
                  have q19362 := mm_ltL (h := 86) (mm_nle c18330) q19360 q19361 (by decide)
                  have q19363 := mm_leL (mm_le c14697) q19361 q19362
                  have q19364 := mm_ltL (h := 85) (mm_nle c18330) q19362 q19363 (by decide)
                  have q19365 := mm_leL (mm_le c14697) q19363 q19364
                  have q19366 := mm_ltL (h := 84) (mm_nle c18330) q19364 q19365 (by decide)
                  have q19367 := mm_leL (mm_le c14697) q19365 q19366
                  have q19368 := mm_ltL (h := 83) (mm_nle c18330) q19366 q19367 (by decide)
                  have q19369 := mm_leL (mm_le c14697) q19367 q19368
                  have q19370 := mm_ltL (h := 82) (mm_nle c18330) q19368 q19369 (by decide)
                  have q19371 := mm_leL (mm_le c14697) q19369 q19370
                  have q19372 := mm_ltL (h := 81) (mm_nle c18330) q19370 q19371 (by decide)
                  have q19373 := mm_leL (mm_le c14697) q19371 q19372
                  have q19374 := mm_ltL (h := 80) (mm_nle c18330) q19372 q19373 (by decide)
                  have q19375 := mm_leL (mm_le c14697) q19373 q19374
                  have q19376 := mm_ltL (h := 79) (mm_nle c18330) q19374 q19375 (by decide)
                  have q19377 := mm_leL (mm_le c14697) q19375 q19376
                  have q19378 := mm_ltL (h := 78) (mm_nle c18330) q19376 q19377 (by decide)
                  have q19379 := mm_leL (mm_le c14697) q19377 q19378
                  have q19380 := mm_ltL (h := 77) (mm_nle c18330) q19378 q19379 (by decide)
                  have q19381 := mm_leL (mm_le c14697) q19379 q19380
                  have q19382 := mm_ltL (h := 76) (mm_nle c18330) q19380 q19381 (by decide)
                  have q19383 := mm_leL (mm_le c14697) q19381 q19382
                  have q19384 := mm_ltL (h := 75) (mm_nle c18330) q19382 q19383 (by decide)
                  have q19385 := mm_leL (mm_le c14697) q19383 q19384
                  have q19386 := mm_ltL (h := 74) (mm_nle c18330) q19384 q19385 (by decide)
                  have q19387 := mm_leL (mm_le c14697) q19385 q19386
                  have q19388 := mm_ltL (h := 73) (mm_nle c18330) q19386 q19387 (by decide)
                  have q19389 := mm_leL (mm_le c14697) q19387 q19388
                  have q19390 := mm_ltL (h := 72) (mm_nle c18330) q19388 q19389 (by decide)
                  have q19391 := mm_leL (mm_le c14697) q19389 q19390
                  have q19392 := mm_ltL (h := 71) (mm_nle c18330) q19390 q19391 (by decide)
                  have q19393 := mm_leL (mm_le c14697) q19391 q19392
                  have q19394 := mm_ltL (h := 70) (mm_nle c18330) q19392 q19393 (by decide)
                  have q19395 := mm_leL (mm_le c14697) q19393 q19394
                  have q19396 := mm_ltL (h := 69) (mm_nle c18330) q19394 q19395 (by decide)
                  have q19397 := mm_leL (mm_le c14697) q19395 q19396
                  have q19398 := mm_ltL (h := 68) (mm_nle c18330) q19396 q19397 (by decide)
                  have q19399 := mm_leL (mm_le c14697) q19397 q19398
                  have q19400 := mm_ltL (h := 67) (mm_nle c18330) q19398 q19399 (by decide)
                  have q19401 := mm_leL (mm_le c14697) q19399 q19400
                  have q19402 := mm_ltL (h := 66) (mm_nle c18330) q19400 q19401 (by decide)
                  have q19403 := mm_leL (mm_le c14697) q19401 q19402
                  have q19404 := mm_ltL (h := 65) (mm_nle c18330) q19402 q19403 (by decide)
                  have q19405 := mm_leL (mm_le c14697) q19403 q19404
                  have q19406 := mm_ltL (h := 64) (mm_nle c18330) q19404 q19405 (by decide)
                  have q19407 := mm_leL (mm_le c14697) q19405 q19406
                  have q19408 := mm_ltL (h := 63) (mm_nle c18330) q19406 q19407 (by decide)
                  have q19409 := mm_leL (mm_le c14697) q19407 q19408
                  have q19410 := mm_ltL (h := 62) (mm_nle c18330) q19408 q19409 (by decide)
                  have q19411 := mm_leL (mm_le c14697) q19409 q19410
                  have q19412 := mm_ltL (h := 61) (mm_nle c18330) q19410 q19411 (by decide)
                  have q19413 := mm_leL (mm_le c14697) q19411 q19412
                  have q19414 := mm_ltL (h := 60) (mm_nle c18330) q19412 q19413 (by decide)
                  have q19415 := mm_leL (mm_le c14697) q19413 q19414
                  have q19416 := mm_ltL (h := 59) (mm_nle c18330) q19414 q19415 (by decide)
                  have q19417 := mm_leL (mm_le c14697) q19415 q19416
                  have q19418 := mm_ltL (h := 58) (mm_nle c18330) q19416 q19417 (by decide)
                  have q19419 := mm_leL (mm_le c14697) q19417 q19418
                  have q19420 := mm_ltL (h := 57) (mm_nle c18330) q19418 q19419 (by decide)
                  have q19421 := mm_leL (mm_le c14697) q19419 q19420
                  have q19422 := mm_ltL (h := 56) (mm_nle c18330) q19420 q19421 (by decide)
                  have q19423 := mm_leL (mm_le c14697) q19421 q19422
                  have q19424 := mm_ltL (h := 55) (mm_nle c18330) q19422 q19423 (by decide)
                  have q19425 := mm_leL (mm_le c14697) q19423 q19424
                  have q19426 := mm_ltL (h := 54) (mm_nle c18330) q19424 q19425 (by decide)
                  have q19427 := mm_leL (mm_le c14697) q19425 q19426
                  have q19428 := mm_ltL (h := 53) (mm_nle c18330) q19426 q19427 (by decide)
                  have q19429 := mm_leL (mm_le c14697) q19427 q19428
                  have q19430 := mm_ltL (h := 52) (mm_nle c18330) q19428 q19429 (by decide)
                  have q19431 := mm_leL (mm_le c14697) q19429 q19430
                  have q19432 := mm_ltL (h := 51) (mm_nle c18330) q19430 q19431 (by decide)
                  have q19433 := mm_leL (mm_le c14697) q19431 q19432
                  have q19434 := mm_ltL (h := 50) (mm_nle c18330) q19432 q19433 (by decide)
                  have q19435 := mm_leL (mm_le c14697) q19433 q19434
                  have q19436 := mm_ltL (h := 49) (mm_nle c18330) q19434 q19435 (by decide)
                  have q19437 := mm_leL (mm_le c14697) q19435 q19436
                  have q19438 := mm_ltL (h := 48) (mm_nle c18330) q19436 q19437 (by decide)
                  have q19439 := mm_leL (mm_le c14697) q19437 q19438
                  have q19440 := mm_ltL (h := 47) (mm_nle c18330) q19438 q19439 (by decide)
                  have q19441 := mm_leL (mm_le c14697) q19439 q19440
                  have q19442 := mm_ltL (h := 46) (mm_nle c18330) q19440 q19441 (by decide)
                  have q19443 := mm_leL (mm_le c14697) q19441 q19442
                  have q19444 := mm_ltL (h := 45) (mm_nle c18330) q19442 q19443 (by decide)
                  have q19445 := mm_leL (mm_le c14697) q19443 q19444
                  have q19446 := mm_ltL (h := 44) (mm_nle c18330) q19444 q19445 (by decide)
                  have q19447 := mm_leL (mm_le c14697) q19445 q19446
                  have q19448 := mm_ltL (h := 43) (mm_nle c18330) q19446 q19447 (by decide)
                  have q19449 := mm_leL (mm_le c14697) q19447 q19448
                  have q19450 := mm_ltL (h := 42) (mm_nle c18330) q19448 q19449 (by decide)
                  have q19451 := mm_leL (mm_le c14697) q19449 q19450
                  have q19452 := mm_ltL (h := 41) (mm_nle c18330) q19450 q19451 (by decide)
                  have q19453 := mm_leL (mm_le c14697) q19451 q19452
                  have q19454 := mm_ltL (h := 40) (mm_nle c18330) q19452 q19453 (by decide)
                  have q19455 := mm_leL (mm_le c14697) q19453 q19454
                  have q19456 := mm_ltL (h := 39) (mm_nle c18330) q19454 q19455 (by decide)
                  have q19457 := mm_leL (mm_le c14697) q19455 q19456
                  have q19458 := mm_ltL (h := 38) (mm_nle c18330) q19456 q19457 (by decide)
                  have q19459 := mm_leL (mm_le c14697) q19457 q19458
                  have q19460 := mm_ltL (h := 37) (mm_nle c18330) q19458 q19459 (by decide)
                  have q19461 := mm_leL (mm_le c14697) q19459 q19460
                  have q19462 := mm_ltL (h := 36) (mm_nle c18330) q19460 q19461 (by decide)
                  have q19463 := mm_leL (mm_le c14697) q19461 q19462
                  have q19464 := mm_ltL (h := 35) (mm_nle c18330) q19462 q19463 (by decide)
                  have q19465 := mm_leL (mm_le c14697) q19463 q19464
                  have q19466 := mm_ltL (h := 34) (mm_nle c18330) q19464 q19465 (by decide)
                  have q19467 := mm_leL (mm_le c14697) q19465 q19466
                  have q19468 := mm_ltL (h := 33) (mm_nle c18330) q19466 q19467 (by decide)
                  have q19469 := mm_leL (mm_le c14697) q19467 q19468
                  have q19470 := mm_ltL (h := 32) (mm_nle c18330) q19468 q19469 (by decide)
                  have q19471 := mm_leL (mm_le c14697) q19469 q19470
                  have q19472 := mm_ltL (h := 31) (mm_nle c18330) q19470 q19471 (by decide)
                  have q19473 := mm_leL (mm_le c14697) q19471 q19472
                  have q19474 := mm_ltL (h := 30) (mm_nle c18330) q19472 q19473 (by decide)
                  have q19475 := mm_leL (mm_le c14697) q19473 q19474
                  have q19476 := mm_ltL (h := 29) (mm_nle c18330) q19474 q19475 (by decide)
                  have q19477 := mm_leL (mm_le c14697) q19475 q19476
                  have q19478 := mm_ltL (h := 28) (mm_nle c18330) q19476 q19477 (by decide)
                  have q19479 := mm_leL (mm_le c14697) q19477 q19478
                  have q19480 := mm_ltL (h := 27) (mm_nle c18330) q19478 q19479 (by decide)
                  have q19481 := mm_leL (mm_le c14697) q19479 q19480
                  have q19482 := mm_ltL (h := 26) (mm_nle c18330) q19480 q19481 (by decide)
                  have q19483 := mm_leL (mm_le c14697) q19481 q19482
                  have q19484 := mm_ltL (h := 25) (mm_nle c18330) q19482 q19483 (by decide)
                  have q19485 := mm_leL (mm_le c14697) q19483 q19484
                  have q19486 := mm_ltL (h := 24) (mm_nle c18330) q19484 q19485 (by decide)
                  have q19487 := mm_leL (mm_le c14697) q19485 q19486
                  have q19488 := mm_ltL (h := 23) (mm_nle c18330) q19486 q19487 (by decide)
                  have q19489 := mm_leL (mm_le c14697) q19487 q19488
                  have q19490 := mm_ltL (h := 22) (mm_nle c18330) q19488 q19489 (by decide)
                  have q19491 := mm_leL (mm_le c14697) q19489 q19490
                  have q19492 := mm_ltL (h := 21) (mm_nle c18330) q19490 q19491 (by decide)
                  have q19493 := mm_leL (mm_le c14697) q19491 q19492
                  have q19494 := mm_ltL (h := 20) (mm_nle c18330) q19492 q19493 (by decide)
                  have q19495 := mm_leL (mm_le c14697) q19493 q19494
                  have q19496 := mm_ltL (h := 19) (mm_nle c18330) q19494 q19495 (by decide)
                  have q19497 := mm_leL (mm_le c14697) q19495 q19496
                  have q19498 := mm_ltL (h := 18) (mm_nle c18330) q19496 q19497 (by decide)
                  have q19499 := mm_leL (mm_le c14697) q19497 q19498
                  have q19500 := mm_ltL (h := 17) (mm_nle c18330) q19498 q19499 (by decide)
                  have q19501 := mm_leL (mm_le c14697) q19499 q19500
                  have q19502 := mm_ltL (h := 16) (mm_nle c18330) q19500 q19501 (by decide)
                  have q19503 := mm_leL (mm_le c14697) q19501 q19502
                  have q19504 := mm_ltL (h := 15) (mm_nle c18330) q19502 q19503 (by decide)
                  have q19505 := mm_leL (mm_le c14697) q19503 q19504
                  have q19506 := mm_ltL (h := 14) (mm_nle c18330) q19504 q19505 (by decide)
                  have q19507 := mm_leL (mm_le c14697) q19505 q19506
                  have q19508 := mm_ltL (h := 13) (mm_nle c18330) q19506 q19507 (by decide)
                  have q19509 := mm_leL (mm_le c14697) q19507 q19508
                  have q19510 := mm_ltL (h := 12) (mm_nle c18330) q19508 q19509 (by decide)
                  have q19511 := mm_leL (mm_le c14697) q19509 q19510
                  have q19512 := mm_ltL (h := 11) (mm_nle c18330) q19510 q19511 (by decide)
                  have q19513 := mm_leL (mm_le c14697) q19511 q19512
                  have q19514 := mm_ltL (h := 10) (mm_nle c18330) q19512 q19513 (by decide)
                  have q19515 := mm_leL (mm_le c14697) q19513 q19514
                  have q19516 := mm_ltL (h := 9) (mm_nle c18330) q19514 q19515 (by decide)
                  have q19517 := mm_leL (mm_le c14697) q19515 q19516
                  have q19518 := mm_ltL (h := 8) (mm_nle c18330) q19516 q19517 (by decide)
                  have q19519 := mm_leL (mm_le c14697) q19517 q19518
                  have q19520 := mm_ltL (h := 7) (mm_nle c18330) q19518 q19519 (by decide)
                  have q19521 := mm_leL (mm_le c14697) q19519 q19520
                  have q19522 := mm_ltL (h := 6) (mm_nle c18330) q19520 q19521 (by decide)
                  have q19523 := mm_leL (mm_le c14697) q19521 q19522
                  have q19524 := mm_ltL (h := 5) (mm_nle c18330) q19522 q19523 (by decide)
                  have q19525 := mm_leL (mm_le c14697) q19523 q19524
                  have q19526 := mm_ltL (h := 4) (mm_nle c18330) q19524 q19525 (by decide)
                  have q19527 := mm_leL (mm_le c14697) q19525 q19526
                  have q19528 := mm_ltL (h := 3) (mm_nle c18330) q19526 q19527 (by decide)
                  have q19529 := mm_leL (mm_le c14697) q19527 q19528
                  have q19530 := mm_ltL (h := 2) (mm_nle c18330) q19528 q19529 (by decide)
                  have q19531 := mm_leL (mm_le c14697) q19529 q19530
                  have q19532 := mm_ltL (h := 1) (mm_nle c18330) q19530 q19531 (by decide)
                  have q19533 := mm_leL (mm_le c14697) q19531 q19532
                  have q19534 := mm_ltL (h := 0) (mm_nle c18330) q19532 q19533 (by decide)
                  exact mm_no q19534 (by decide)
        · have q19535 := mm_ltL (h := 599) (mm_nle c14700) rx5_1_14695 h0 (by decide)
          have q19536 := mm_ltR (lo := 1) (mm_nle c14700) rx5_1_14695 h0 (by decide)
          have q19537 := mm_leL (mm_le c14697) q19536 q19535
          have q19538 := mm_leR (mm_le c14697) q19537 q19535
          have q19539 := mm_ltL (h := 598) (mm_nle c14700) q19538 q19537 (by decide)
          have q19540 := mm_leL (mm_le c14697) q19537 q19539
          have q19541 := mm_ltL (h := 597) (mm_nle c14700) q19539 q19540 (by decide)
          have q19542 := mm_leL (mm_le c14697) q19540 q19541
          have q19543 := mm_ltL (h := 596) (mm_nle c14700) q19541 q19542 (by decide)
          have q19544 := mm_leL (mm_le c14697) q19542 q19543
          have q19545 := mm_ltL (h := 595) (mm_nle c14700) q19543 q19544 (by decide)
          have q19546 := mm_leL (mm_le c14697) q19544 q19545
          have q19547 := mm_ltL (h := 594) (mm_nle c14700) q19545 q19546 (by decide)
          have q19548 := mm_leL (mm_le c14697) q19546 q19547
          have q19549 := mm_ltL (h := 593) (mm_nle c14700) q19547 q19548 (by decide)
          have q19550 := mm_leL (mm_le c14697) q19548 q19549
          have q19551 := mm_ltL (h := 592) (mm_nle c14700) q19549 q19550 (by decide)
          have q19552 := mm_leL (mm_le c14697) q19550 q19551
          have q19553 := mm_ltL (h := 591) (mm_nle c14700) q19551 q19552 (by decide)
          have q19554 := mm_leL (mm_le c14697) q19552 q19553
          have q19555 := mm_ltL (h := 590) (mm_nle c14700) q19553 q19554 (by decide)
          have q19556 := mm_leL (mm_le c14697) q19554 q19555
          have q19557 := mm_ltL (h := 589) (mm_nle c14700) q19555 q19556 (by decide)
          have q19558 := mm_leL (mm_le c14697) q19556 q19557
          have q19559 := mm_ltL (h := 588) (mm_nle c14700) q19557 q19558 (by decide)
          have q19560 := mm_leL (mm_le c14697) q19558 q19559
          have q19561 := mm_ltL (h := 587) (mm_nle c14700) q19559 q19560 (by decide)
          have q19562 := mm_leL (mm_le c14697) q19560 q19561
          have q19563 := mm_ltL (h := 586) (mm_nle c14700) q19561 q19562 (by decide)
          have q19564 := mm_leL (mm_le c14697) q19562 q19563
          have q19565 := mm_ltL (h := 585) (mm_nle c14700) q19563 q19564 (by decide)
          have q19566 := mm_leL (mm_le c14697) q19564 q19565
          have q19567 := mm_ltL (h := 584) (mm_nle c14700) q19565 q19566 (by decide)
          have q19568 := mm_leL (mm_le c14697) q19566 q19567
          have q19569 := mm_ltL (h := 583) (mm_nle c14700) q19567 q19568 (by decide)
          have q19570 := mm_leL (mm_le c14697) q19568 q19569
          have q19571 := mm_ltL (h := 582) (mm_nle c14700) q19569 q19570 (by decide)
          have q19572 := mm_leL (mm_le c14697) q19570 q19571
          have q19573 := mm_ltL (h := 581) (mm_nle c14700) q19571 q19572 (by decide)
          have q19574 := mm_leL (mm_le c14697) q19572 q19573
          have q19575 := mm_ltL (h := 580) (mm_nle c14700) q19573 q19574 (by decide)
          have q19576 := mm_leL (mm_le c14697) q19574 q19575
          have q19577 := mm_ltL (h := 579) (mm_nle c14700) q19575 q19576 (by decide)
          have q19578 := mm_leL (mm_le c14697) q19576 q19577
          have q19579 := mm_ltL (h := 578) (mm_nle c14700) q19577 q19578 (by decide)
          have q19580 := mm_leL (mm_le c14697) q19578 q19579
          have q19581 := mm_ltL (h := 577) (mm_nle c14700) q19579 q19580 (by decide)
          have q19582 := mm_leL (mm_le c14697) q19580 q19581
          have q19583 := mm_ltL (h := 576) (mm_nle c14700) q19581 q19582 (by decide)
          have q19584 := mm_leL (mm_le c14697) q19582 q19583
          have q19585 := mm_ltL (h := 575) (mm_nle c14700) q19583 q19584 (by decide)
          have q19586 := mm_leL (mm_le c14697) q19584 q19585
          have q19587 := mm_ltL (h := 574) (mm_nle c14700) q19585 q19586 (by decide)
          have q19588 := mm_leL (mm_le c14697) q19586 q19587
          have q19589 := mm_ltL (h := 573) (mm_nle c14700) q19587 q19588 (by decide)
          have q19590 := mm_leL (mm_le c14697) q19588 q19589
          have q19591 := mm_ltL (h := 572) (mm_nle c14700) q19589 q19590 (by decide)
          have q19592 := mm_leL (mm_le c14697) q19590 q19591
          have q19593 := mm_ltL (h := 571) (mm_nle c14700) q19591 q19592 (by decide)
          have q19594 := mm_leL (mm_le c14697) q19592 q19593
          have q19595 := mm_ltL (h := 570) (mm_nle c14700) q19593 q19594 (by decide)
          have q19596 := mm_leL (mm_le c14697) q19594 q19595
          have q19597 := mm_ltL (h := 569) (mm_nle c14700) q19595 q19596 (by decide)
          have q19598 := mm_leL (mm_le c14697) q19596 q19597
          have q19599 := mm_ltL (h := 568) (mm_nle c14700) q19597 q19598 (by decide)
          have q19600 := mm_leL (mm_le c14697) q19598 q19599
          have q19601 := mm_ltL (h := 567) (mm_nle c14700) q19599 q19600 (by decide)
          have q19602 := mm_leL (mm_le c14697) q19600 q19601
          have q19603 := mm_ltL (h := 566) (mm_nle c14700) q19601 q19602 (by decide)
          have q19604 := mm_leL (mm_le c14697) q19602 q19603
          have q19605 := mm_ltL (h := 565) (mm_nle c14700) q19603 q19604 (by decide)
          have q19606 := mm_leL (mm_le c14697) q19604 q19605
          have q19607 := mm_ltL (h := 564) (mm_nle c14700) q19605 q19606 (by decide)
          have q19608 := mm_leL (mm_le c14697) q19606 q19607
          have q19609 := mm_ltL (h := 563) (mm_nle c14700) q19607 q19608 (by decide)
          have q19610 := mm_leL (mm_le c14697) q19608 q19609
          have q19611 := mm_ltL (h := 562) (mm_nle c14700) q19609 q19610 (by decide)
          have q19612 := mm_leL (mm_le c14697) q19610 q19611
          have q19613 := mm_ltL (h := 561) (mm_nle c14700) q19611 q19612 (by decide)
          have q19614 := mm_leL (mm_le c14697) q19612 q19613
          have q19615 := mm_ltL (h := 560) (mm_nle c14700) q19613 q19614 (by decide)
          have q19616 := mm_leL (mm_le c14697) q19614 q19615
          have q19617 := mm_ltL (h := 559) (mm_nle c14700) q19615 q19616 (by decide)
          have q19618 := mm_leL (mm_le c14697) q19616 q19617
          have q19619 := mm_ltL (h := 558) (mm_nle c14700) q19617 q19618 (by decide)
          have q19620 := mm_leL (mm_le c14697) q19618 q19619
          have q19621 := mm_ltL (h := 557) (mm_nle c14700) q19619 q19620 (by decide)
          have q19622 := mm_leL (mm_le c14697) q19620 q19621
          have q19623 := mm_ltL (h := 556) (mm_nle c14700) q19621 q19622 (by decide)
          have q19624 := mm_leL (mm_le c14697) q19622 q19623
          have q19625 := mm_ltL (h := 555) (mm_nle c14700) q19623 q19624 (by decide)
          have q19626 := mm_leL (mm_le c14697) q19624 q19625
          have q19627 := mm_ltL (h := 554) (mm_nle c14700) q19625 q19626 (by decide)
          have q19628 := mm_leL (mm_le c14697) q19626 q19627
          have q19629 := mm_ltL (h := 553) (mm_nle c14700) q19627 q19628 (by decide)
          have q19630 := mm_leL (mm_le c14697) q19628 q19629
          have q19631 := mm_ltL (h := 552) (mm_nle c14700) q19629 q19630 (by decide)
          have q19632 := mm_leL (mm_le c14697) q19630 q19631
          have q19633 := mm_ltL (h := 551) (mm_nle c14700) q19631 q19632 (by decide)
          have q19634 := mm_leL (mm_le c14697) q19632 q19633
          have q19635 := mm_ltL (h := 550) (mm_nle c14700) q19633 q19634 (by decide)
          have q19636 := mm_leL (mm_le c14697) q19634 q19635
          have q19637 := mm_ltL (h := 549) (mm_nle c14700) q19635 q19636 (by decide)
          have q19638 := mm_leL (mm_le c14697) q19636 q19637
          have q19639 := mm_ltL (h := 548) (mm_nle c14700) q19637 q19638 (by decide)
          have q19640 := mm_leL (mm_le c14697) q19638 q19639
          have q19641 := mm_ltL (h := 547) (mm_nle c14700) q19639 q19640 (by decide)
          have q19642 := mm_leL (mm_le c14697) q19640 q19641
          have q19643 := mm_ltL (h := 546) (mm_nle c14700) q19641 q19642 (by decide)
          have q19644 := mm_leL (mm_le c14697) q19642 q19643
          have q19645 := mm_ltL (h := 545) (mm_nle c14700) q19643 q19644 (by decide)
          have q19646 := mm_leL (mm_le c14697) q19644 q19645
          have q19647 := mm_ltL (h := 544) (mm_nle c14700) q19645 q19646 (by decide)
          have q19648 := mm_leL (mm_le c14697) q19646 q19647
          have q19649 := mm_ltL (h := 543) (mm_nle c14700) q19647 q19648 (by decide)
          have q19650 := mm_leL (mm_le c14697) q19648 q19649
          have q19651 := mm_ltL (h := 542) (mm_nle c14700) q19649 q19650 (by decide)
          have q19652 := mm_leL (mm_le c14697) q19650 q19651
          have q19653 := mm_ltL (h := 541) (mm_nle c14700) q19651 q19652 (by decide)
          have q19654 := mm_leL (mm_le c14697) q19652 q19653
          have q19655 := mm_ltL (h := 540) (mm_nle c14700) q19653 q19654 (by decide)
          have q19656 := mm_leL (mm_le c14697) q19654 q19655
          have q19657 := mm_ltL (h := 539) (mm_nle c14700) q19655 q19656 (by decide)
          have q19658 := mm_leL (mm_le c14697) q19656 q19657
          have q19659 := mm_ltL (h := 538) (mm_nle c14700) q19657 q19658 (by decide)
          have q19660 := mm_leL (mm_le c14697) q19658 q19659
          have q19661 := mm_ltL (h := 537) (mm_nle c14700) q19659 q19660 (by decide)
          have q19662 := mm_leL (mm_le c14697) q19660 q19661
          have q19663 := mm_ltL (h := 536) (mm_nle c14700) q19661 q19662 (by decide)
          have q19664 := mm_leL (mm_le c14697) q19662 q19663
          have q19665 := mm_ltL (h := 535) (mm_nle c14700) q19663 q19664 (by decide)
          have q19666 := mm_leL (mm_le c14697) q19664 q19665
          have q19667 := mm_ltL (h := 534) (mm_nle c14700) q19665 q19666 (by decide)
          have q19668 := mm_leL (mm_le c14697) q19666 q19667
          have q19669 := mm_ltL (h := 533) (mm_nle c14700) q19667 q19668 (by decide)
          have q19670 := mm_leL (mm_le c14697) q19668 q19669
          have q19671 := mm_ltL (h := 532) (mm_nle c14700) q19669 q19670 (by decide)
          have q19672 := mm_leL (mm_le c14697) q19670 q19671
          have q19673 := mm_ltL (h := 531) (mm_nle c14700) q19671 q19672 (by decide)
          have q19674 := mm_leL (mm_le c14697) q19672 q19673
          have q19675 := mm_ltL (h := 530) (mm_nle c14700) q19673 q19674 (by decide)
          have q19676 := mm_leL (mm_le c14697) q19674 q19675
          have q19677 := mm_ltL (h := 529) (mm_nle c14700) q19675 q19676 (by decide)
          have q19678 := mm_leL (mm_le c14697) q19676 q19677
          have q19679 := mm_ltL (h := 528) (mm_nle c14700) q19677 q19678 (by decide)
          have q19680 := mm_leL (mm_le c14697) q19678 q19679
          have q19681 := mm_ltL (h := 527) (mm_nle c14700) q19679 q19680 (by decide)
          have q19682 := mm_leL (mm_le c14697) q19680 q19681
          have q19683 := mm_ltL (h := 526) (mm_nle c14700) q19681 q19682 (by decide)
          have q19684 := mm_leL (mm_le c14697) q19682 q19683
          have q19685 := mm_ltL (h := 525) (mm_nle c14700) q19683 q19684 (by decide)
          have q19686 := mm_leL (mm_le c14697) q19684 q19685
          have q19687 := mm_ltL (h := 524) (mm_nle c14700) q19685 q19686 (by decide)
          have q19688 := mm_leL (mm_le c14697) q19686 q19687
          have q19689 := mm_ltL (h := 523) (mm_nle c14700) q19687 q19688 (by decide)
          have q19690 := mm_leL (mm_le c14697) q19688 q19689
          have q19691 := mm_ltL (h := 522) (mm_nle c14700) q19689 q19690 (by decide)
          have q19692 := mm_leL (mm_le c14697) q19690 q19691
          have q19693 := mm_ltL (h := 521) (mm_nle c14700) q19691 q19692 (by decide)
          have q19694 := mm_leL (mm_le c14697) q19692 q19693
          have q19695 := mm_ltL (h := 520) (mm_nle c14700) q19693 q19694 (by decide)
          have q19696 := mm_leL (mm_le c14697) q19694 q19695
          have q19697 := mm_ltL (h := 519) (mm_nle c14700) q19695 q19696 (by decide)
          have q19698 := mm_leL (mm_le c14697) q19696 q19697
          have q19699 := mm_ltL (h := 518) (mm_nle c14700) q19697 q19698 (by decide)
          have q19700 := mm_leL (mm_le c14697) q19698 q19699
          have q19701 := mm_ltL (h := 517) (mm_nle c14700) q19699 q19700 (by decide)
          have q19702 := mm_leL (mm_le c14697) q19700 q19701
          have q19703 := mm_ltL (h := 516) (mm_nle c14700) q19701 q19702 (by decide)
          have q19704 := mm_leL (mm_le c14697) q19702 q19703
          have q19705 := mm_ltL (h := 515) (mm_nle c14700) q19703 q19704 (by decide)
          have q19706 := mm_leL (mm_le c14697) q19704 q19705
          have q19707 := mm_ltL (h := 514) (mm_nle c14700) q19705 q19706 (by decide)
          have q19708 := mm_leL (mm_le c14697) q19706 q19707
          have q19709 := mm_ltL (h := 513) (mm_nle c14700) q19707 q19708 (by decide)
          have q19710 := mm_leL (mm_le c14697) q19708 q19709
          have q19711 := mm_ltL (h := 512) (mm_nle c14700) q19709 q19710 (by decide)
          have q19712 := mm_leL (mm_le c14697) q19710 q19711
          have q19713 := mm_ltL (h := 511) (mm_nle c14700) q19711 q19712 (by decide)
          have q19714 := mm_leL (mm_le c14697) q19712 q19713
          have q19715 := mm_ltL (h := 510) (mm_nle c14700) q19713 q19714 (by decide)
          have q19716 := mm_leL (mm_le c14697) q19714 q19715
          have q19717 := mm_ltL (h := 509) (mm_nle c14700) q19715 q19716 (by decide)
          have q19718 := mm_leL (mm_le c14697) q19716 q19717
          have q19719 := mm_ltL (h := 508) (mm_nle c14700) q19717 q19718 (by decide)
          have q19720 := mm_leL (mm_le c14697) q19718 q19719
          have q19721 := mm_ltL (h := 507) (mm_nle c14700) q19719 q19720 (by decide)
          have q19722 := mm_leL (mm_le c14697) q19720 q19721
          have q19723 := mm_ltL (h := 506) (mm_nle c14700) q19721 q19722 (by decide)
          have q19724 := mm_leL (mm_le c14697) q19722 q19723
          have q19725 := mm_ltL (h := 505) (mm_nle c14700) q19723 q19724 (by decide)
          have q19726 := mm_leL (mm_le c14697) q19724 q19725
          have q19727 := mm_ltL (h := 504) (mm_nle c14700) q19725 q19726 (by decide)
          have q19728 := mm_leL (mm_le c14697) q19726 q19727
          have q19729 := mm_ltL (h := 503) (mm_nle c14700) q19727 q19728 (by decide)
          have q19730 := mm_leL (mm_le c14697) q19728 q19729
          have q19731 := mm_ltL (h := 502) (mm_nle c14700) q19729 q19730 (by decide)
          have q19732 := mm_leL (mm_le c14697) q19730 q19731
          have q19733 := mm_ltL (h := 501) (mm_nle c14700) q19731 q19732 (by decide)
          have q19734 := mm_leL (mm_le c14697) q19732 q19733
          have q19735 := mm_ltL (h := 500) (mm_nle c14700) q19733 q19734 (by decide)
          have q19736 := mm_leL (mm_le c14697) q19734 q19735
          have q19737 := mm_ltL (h := 499) (mm_nle c14700) q19735 q19736 (by decide)
          have q19738 := mm_leL (mm_le c14697) q19736 q19737
          have q19739 := mm_ltL (h := 498) (mm_nle c14700) q19737 q19738 (by decide)
          have q19740 := mm_leL (mm_le c14697) q19738 q19739
          have q19741 := mm_ltL (h := 497) (mm_nle c14700) q19739 q19740 (by decide)
          have q19742 := mm_leL (mm_le c14697) q19740 q19741
          have q19743 := mm_ltL (h := 496) (mm_nle c14700) q19741 q19742 (by decide)
          have q19744 := mm_leL (mm_le c14697) q19742 q19743
          have q19745 := mm_ltL (h := 495) (mm_nle c14700) q19743 q19744 (by decide)
          have q19746 := mm_leL (mm_le c14697) q19744 q19745
          have q19747 := mm_ltL (h := 494) (mm_nle c14700) q19745 q19746 (by decide)
          have q19748 := mm_leL (mm_le c14697) q19746 q19747
          have q19749 := mm_ltL (h := 493) (mm_nle c14700) q19747 q19748 (by decide)
          have q19750 := mm_leL (mm_le c14697) q19748 q19749
          have q19751 := mm_ltL (h := 492) (mm_nle c14700) q19749 q19750 (by decide)
          have q19752 := mm_leL (mm_le c14697) q19750 q19751
          have q19753 := mm_ltL (h := 491) (mm_nle c14700) q19751 q19752 (by decide)
          have q19754 := mm_leL (mm_le c14697) q19752 q19753
          have q19755 := mm_ltL (h := 490) (mm_nle c14700) q19753 q19754 (by decide)
          have q19756 := mm_leL (mm_le c14697) q19754 q19755
          have q19757 := mm_ltL (h := 489) (mm_nle c14700) q19755 q19756 (by decide)
          have q19758 := mm_leL (mm_le c14697) q19756 q19757
          have q19759 := mm_ltL (h := 488) (mm_nle c14700) q19757 q19758 (by decide)
          have q19760 := mm_leL (mm_le c14697) q19758 q19759
          have q19761 := mm_ltL (h := 487) (mm_nle c14700) q19759 q19760 (by decide)
          have q19762 := mm_leL (mm_le c14697) q19760 q19761
          have q19763 := mm_ltL (h := 486) (mm_nle c14700) q19761 q19762 (by decide)
          have q19764 := mm_leL (mm_le c14697) q19762 q19763
          have q19765 := mm_ltL (h := 485) (mm_nle c14700) q19763 q19764 (by decide)
          have q19766 := mm_leL (mm_le c14697) q19764 q19765
          have q19767 := mm_ltL (h := 484) (mm_nle c14700) q19765 q19766 (by decide)
          have q19768 := mm_leL (mm_le c14697) q19766 q19767
          have q19769 := mm_ltL (h := 483) (mm_nle c14700) q19767 q19768 (by decide)
          have q19770 := mm_leL (mm_le c14697) q19768 q19769
          have q19771 := mm_ltL (h := 482) (mm_nle c14700) q19769 q19770 (by decide)
          have q19772 := mm_leL (mm_le c14697) q19770 q19771
          have q19773 := mm_ltL (h := 481) (mm_nle c14700) q19771 q19772 (by decide)
          have q19774 := mm_leL (mm_le c14697) q19772 q19773
          have q19775 := mm_ltL (h := 480) (mm_nle c14700) q19773 q19774 (by decide)
          have q19776 := mm_leL (mm_le c14697) q19774 q19775
          have q19777 := mm_ltL (h := 479) (mm_nle c14700) q19775 q19776 (by decide)
          have q19778 := mm_leL (mm_le c14697) q19776 q19777
          have q19779 := mm_ltL (h := 478) (mm_nle c14700) q19777 q19778 (by decide)
          have q19780 := mm_leL (mm_le c14697) q19778 q19779
          have q19781 := mm_ltL (h := 477) (mm_nle c14700) q19779 q19780 (by decide)
          have q19782 := mm_leL (mm_le c14697) q19780 q19781
          have q19783 := mm_ltL (h := 476) (mm_nle c14700) q19781 q19782 (by decide)
          have q19784 := mm_leL (mm_le c14697) q19782 q19783
          have q19785 := mm_ltL (h := 475) (mm_nle c14700) q19783 q19784 (by decide)
          have q19786 := mm_leL (mm_le c14697) q19784 q19785
          have q19787 := mm_ltL (h := 474) (mm_nle c14700) q19785 q19786 (by decide)
          have q19788 := mm_leL (mm_le c14697) q19786 q19787
          have q19789 := mm_ltL (h := 473) (mm_nle c14700) q19787 q19788 (by decide)
          have q19790 := mm_leL (mm_le c14697) q19788 q19789
          have q19791 := mm_ltL (h := 472) (mm_nle c14700) q19789 q19790 (by decide)
          have q19792 := mm_leL (mm_le c14697) q19790 q19791
          have q19793 := mm_ltL (h := 471) (mm_nle c14700) q19791 q19792 (by decide)
          have q19794 := mm_leL (mm_le c14697) q19792 q19793
          have q19795 := mm_ltL (h := 470) (mm_nle c14700) q19793 q19794 (by decide)
          have q19796 := mm_leL (mm_le c14697) q19794 q19795
          have q19797 := mm_ltL (h := 469) (mm_nle c14700) q19795 q19796 (by decide)
          have q19798 := mm_leL (mm_le c14697) q19796 q19797
          have q19799 := mm_ltL (h := 468) (mm_nle c14700) q19797 q19798 (by decide)
          have q19800 := mm_leL (mm_le c14697) q19798 q19799
          have q19801 := mm_ltL (h := 467) (mm_nle c14700) q19799 q19800 (by decide)
          have q19802 := mm_leL (mm_le c14697) q19800 q19801
          have q19803 := mm_ltL (h := 466) (mm_nle c14700) q19801 q19802 (by decide)
          have q19804 := mm_leL (mm_le c14697) q19802 q19803
          have q19805 := mm_ltL (h := 465) (mm_nle c14700) q19803 q19804 (by decide)
          have q19806 := mm_leL (mm_le c14697) q19804 q19805
          have q19807 := mm_ltL (h := 464) (mm_nle c14700) q19805 q19806 (by decide)
          have q19808 := mm_leL (mm_le c14697) q19806 q19807
          have q19809 := mm_ltL (h := 463) (mm_nle c14700) q19807 q19808 (by decide)
          have q19810 := mm_leL (mm_le c14697) q19808 q19809
          have q19811 := mm_ltL (h := 462) (mm_nle c14700) q19809 q19810 (by decide)
          have q19812 := mm_leL (mm_le c14697) q19810 q19811
          have q19813 := mm_ltL (h := 461) (mm_nle c14700) q19811 q19812 (by decide)
          have q19814 := mm_leL (mm_le c14697) q19812 q19813
          have q19815 := mm_ltL (h := 460) (mm_nle c14700) q19813 q19814 (by decide)
          have q19816 := mm_leL (mm_le c14697) q19814 q19815
          have q19817 := mm_ltL (h := 459) (mm_nle c14700) q19815 q19816 (by decide)
          have q19818 := mm_leL (mm_le c14697) q19816 q19817
          have q19819 := mm_ltL (h := 458) (mm_nle c14700) q19817 q19818 (by decide)
          have q19820 := mm_leL (mm_le c14697) q19818 q19819
          have q19821 := mm_ltL (h := 457) (mm_nle c14700) q19819 q19820 (by decide)
          have q19822 := mm_leL (mm_le c14697) q19820 q19821
          have q19823 := mm_ltL (h := 456) (mm_nle c14700) q19821 q19822 (by decide)
          have q19824 := mm_leL (mm_le c14697) q19822 q19823
          have q19825 := mm_ltL (h := 455) (mm_nle c14700) q19823 q19824 (by decide)
          have q19826 := mm_leL (mm_le c14697) q19824 q19825
          have q19827 := mm_ltL (h := 454) (mm_nle c14700) q19825 q19826 (by decide)
          have q19828 := mm_leL (mm_le c14697) q19826 q19827
          have q19829 := mm_ltL (h := 453) (mm_nle c14700) q19827 q19828 (by decide)
          have q19830 := mm_leL (mm_le c14697) q19828 q19829
          have q19831 := mm_ltL (h := 452) (mm_nle c14700) q19829 q19830 (by decide)
          have q19832 := mm_leL (mm_le c14697) q19830 q19831
          have q19833 := mm_ltL (h := 451) (mm_nle c14700) q19831 q19832 (by decide)
          have q19834 := mm_leL (mm_le c14697) q19832 q19833
          have q19835 := mm_ltL (h := 450) (mm_nle c14700) q19833 q19834 (by decide)
          have q19836 := mm_leL (mm_le c14697) q19834 q19835
          have q19837 := mm_ltL (h := 449) (mm_nle c14700) q19835 q19836 (by decide)
          have q19838 := mm_leL (mm_le c14697) q19836 q19837
          have q19839 := mm_ltL (h := 448) (mm_nle c14700) q19837 q19838 (by decide)
          have q19840 := mm_leL (mm_le c14697) q19838 q19839
          have q19841 := mm_ltL (h := 447) (mm_nle c14700) q19839 q19840 (by decide)
          have q19842 := mm_leL (mm_le c14697) q19840 q19841
          have q19843 := mm_ltL (h := 446) (mm_nle c14700) q19841 q19842 (by decide)
          have q19844 := mm_leL (mm_le c14697) q19842 q19843
          have q19845 := mm_ltL (h := 445) (mm_nle c14700) q19843 q19844 (by decide)
          have q19846 := mm_leL (mm_le c14697) q19844 q19845
          have q19847 := mm_ltL (h := 444) (mm_nle c14700) q19845 q19846 (by decide)
          have q19848 := mm_leL (mm_le c14697) q19846 q19847
          have q19849 := mm_ltL (h := 443) (mm_nle c14700) q19847 q19848 (by decide)
          have q19850 := mm_leL (mm_le c14697) q19848 q19849
          have q19851 := mm_ltL (h := 442) (mm_nle c14700) q19849 q19850 (by decide)
          have q19852 := mm_leL (mm_le c14697) q19850 q19851
          have q19853 := mm_ltL (h := 441) (mm_nle c14700) q19851 q19852 (by decide)
          have q19854 := mm_leL (mm_le c14697) q19852 q19853
          have q19855 := mm_ltL (h := 440) (mm_nle c14700) q19853 q19854 (by decide)
          have q19856 := mm_leL (mm_le c14697) q19854 q19855
          have q19857 := mm_ltL (h := 439) (mm_nle c14700) q19855 q19856 (by decide)
          have q19858 := mm_leL (mm_le c14697) q19856 q19857
          have q19859 := mm_ltL (h := 438) (mm_nle c14700) q19857 q19858 (by decide)
          have q19860 := mm_leL (mm_le c14697) q19858 q19859
          have q19861 := mm_ltL (h := 437) (mm_nle c14700) q19859 q19860 (by decide)
          have q19862 := mm_leL (mm_le c14697) q19860 q19861
          have q19863 := mm_ltL (h := 436) (mm_nle c14700) q19861 q19862 (by decide)
          have q19864 := mm_leL (mm_le c14697) q19862 q19863
          have q19865 := mm_ltL (h := 435) (mm_nle c14700) q19863 q19864 (by decide)
          have q19866 := mm_leL (mm_le c14697) q19864 q19865
          have q19867 := mm_ltL (h := 434) (mm_nle c14700) q19865 q19866 (by decide)
          have q19868 := mm_leL (mm_le c14697) q19866 q19867
          have q19869 := mm_ltL (h := 433) (mm_nle c14700) q19867 q19868 (by decide)
          have q19870 := mm_leL (mm_le c14697) q19868 q19869
          have q19871 := mm_ltL (h := 432) (mm_nle c14700) q19869 q19870 (by decide)
          have q19872 := mm_leL (mm_le c14697) q19870 q19871
          have q19873 := mm_ltL (h := 431) (mm_nle c14700) q19871 q19872 (by decide)
          have q19874 := mm_leL (mm_le c14697) q19872 q19873
          have q19875 := mm_ltL (h := 430) (mm_nle c14700) q19873 q19874 (by decide)
          have q19876 := mm_leL (mm_le c14697) q19874 q19875
          have q19877 := mm_ltL (h := 429) (mm_nle c14700) q19875 q19876 (by decide)
          have q19878 := mm_leL (mm_le c14697) q19876 q19877
          have q19879 := mm_ltL (h := 428) (mm_nle c14700) q19877 q19878 (by decide)
          have q19880 := mm_leL (mm_le c14697) q19878 q19879
          have q19881 := mm_ltL (h := 427) (mm_nle c14700) q19879 q19880 (by decide)
          have q19882 := mm_leL (mm_le c14697) q19880 q19881
          have q19883 := mm_ltL (h := 426) (mm_nle c14700) q19881 q19882 (by decide)
          have q19884 := mm_leL (mm_le c14697) q19882 q19883
          have q19885 := mm_ltL (h := 425) (mm_nle c14700) q19883 q19884 (by decide)
          have q19886 := mm_leL (mm_le c14697) q19884 q19885
          have q19887 := mm_ltL (h := 424) (mm_nle c14700) q19885 q19886 (by decide)
          have q19888 := mm_leL (mm_le c14697) q19886 q19887
          have q19889 := mm_ltL (h := 423) (mm_nle c14700) q19887 q19888 (by decide)
          have q19890 := mm_leL (mm_le c14697) q19888 q19889
          have q19891 := mm_ltL (h := 422) (mm_nle c14700) q19889 q19890 (by decide)
          have q19892 := mm_leL (mm_le c14697) q19890 q19891
          have q19893 := mm_ltL (h := 421) (mm_nle c14700) q19891 q19892 (by decide)
          have q19894 := mm_leL (mm_le c14697) q19892 q19893
          have q19895 := mm_ltL (h := 420) (mm_nle c14700) q19893 q19894 (by decide)
          have q19896 := mm_leL (mm_le c14697) q19894 q19895
          have q19897 := mm_ltL (h := 419) (mm_nle c14700) q19895 q19896 (by decide)
          have q19898 := mm_leL (mm_le c14697) q19896 q19897
          have q19899 := mm_ltL (h := 418) (mm_nle c14700) q19897 q19898 (by decide)
          have q19900 := mm_leL (mm_le c14697) q19898 q19899
          have q19901 := mm_ltL (h := 417) (mm_nle c14700) q19899 q19900 (by decide)
          have q19902 := mm_leL (mm_le c14697) q19900 q19901
          have q19903 := mm_ltL (h := 416) (mm_nle c14700) q19901 q19902 (by decide)
          have q19904 := mm_leL (mm_le c14697) q19902 q19903
          have q19905 := mm_ltL (h := 415) (mm_nle c14700) q19903 q19904 (by decide)
          have q19906 := mm_leL (mm_le c14697) q19904 q19905
          have q19907 := mm_ltL (h := 414) (mm_nle c14700) q19905 q19906 (by decide)
          have q19908 := mm_leL (mm_le c14697) q19906 q19907
          have q19909 := mm_ltL (h := 413) (mm_nle c14700) q19907 q19908 (by decide)
          have q19910 := mm_leL (mm_le c14697) q19908 q19909
          have q19911 := mm_ltL (h := 412) (mm_nle c14700) q19909 q19910 (by decide)
          have q19912 := mm_leL (mm_le c14697) q19910 q19911
          have q19913 := mm_ltL (h := 411) (mm_nle c14700) q19911 q19912 (by decide)
          have q19914 := mm_leL (mm_le c14697) q19912 q19913
          have q19915 := mm_ltL (h := 410) (mm_nle c14700) q19913 q19914 (by decide)
          have q19916 := mm_leL (mm_le c14697) q19914 q19915
          have q19917 := mm_ltL (h := 409) (mm_nle c14700) q19915 q19916 (by decide)
          have q19918 := mm_leL (mm_le c14697) q19916 q19917
          have q19919 := mm_ltL (h := 408) (mm_nle c14700) q19917 q19918 (by decide)
          have q19920 := mm_leL (mm_le c14697) q19918 q19919
          have q19921 := mm_ltL (h := 407) (mm_nle c14700) q19919 q19920 (by decide)
          have q19922 := mm_leL (mm_le c14697) q19920 q19921
          have q19923 := mm_ltL (h := 406) (mm_nle c14700) q19921 q19922 (by decide)
          have q19924 := mm_leL (mm_le c14697) q19922 q19923
          have q19925 := mm_ltL (h := 405) (mm_nle c14700) q19923 q19924 (by decide)
          have q19926 := mm_leL (mm_le c14697) q19924 q19925
          have q19927 := mm_ltL (h := 404) (mm_nle c14700) q19925 q19926 (by decide)
          have q19928 := mm_leL (mm_le c14697) q19926 q19927
          have q19929 := mm_ltL (h := 403) (mm_nle c14700) q19927 q19928 (by decide)
          have q19930 := mm_leL (mm_le c14697) q19928 q19929
          have q19931 := mm_ltL (h := 402) (mm_nle c14700) q19929 q19930 (by decide)
          have q19932 := mm_leL (mm_le c14697) q19930 q19931
          have q19933 := mm_ltL (h := 401) (mm_nle c14700) q19931 q19932 (by decide)
          have q19934 := mm_leL (mm_le c14697) q19932 q19933
          have q19935 := mm_ltL (h := 400) (mm_nle c14700) q19933 q19934 (by decide)
          have q19936 := mm_leL (mm_le c14697) q19934 q19935
          have q19937 := mm_ltL (h := 399) (mm_nle c14700) q19935 q19936 (by decide)
          have q19938 := mm_leL (mm_le c14697) q19936 q19937
          have q19939 := mm_ltL (h := 398) (mm_nle c14700) q19937 q19938 (by decide)
          have q19940 := mm_leL (mm_le c14697) q19938 q19939
          have q19941 := mm_ltL (h := 397) (mm_nle c14700) q19939 q19940 (by decide)
          have q19942 := mm_leL (mm_le c14697) q19940 q19941
          have q19943 := mm_ltL (h := 396) (mm_nle c14700) q19941 q19942 (by decide)
          have q19944 := mm_leL (mm_le c14697) q19942 q19943
          have q19945 := mm_ltL (h := 395) (mm_nle c14700) q19943 q19944 (by decide)
          have q19946 := mm_leL (mm_le c14697) q19944 q19945
          have q19947 := mm_ltL (h := 394) (mm_nle c14700) q19945 q19946 (by decide)
          have q19948 := mm_leL (mm_le c14697) q19946 q19947
          have q19949 := mm_ltL (h := 393) (mm_nle c14700) q19947 q19948 (by decide)
          have q19950 := mm_leL (mm_le c14697) q19948 q19949
          have q19951 := mm_ltL (h := 392) (mm_nle c14700) q19949 q19950 (by decide)
          have q19952 := mm_leL (mm_le c14697) q19950 q19951
          have q19953 := mm_ltL (h := 391) (mm_nle c14700) q19951 q19952 (by decide)
          have q19954 := mm_leL (mm_le c14697) q19952 q19953
          have q19955 := mm_ltL (h := 390) (mm_nle c14700) q19953 q19954 (by decide)
          have q19956 := mm_leL (mm_le c14697) q19954 q19955
          have q19957 := mm_ltL (h := 389) (mm_nle c14700) q19955 q19956 (by decide)
          have q19958 := mm_leL (mm_le c14697) q19956 q19957
          have q19959 := mm_ltL (h := 388) (mm_nle c14700) q19957 q19958 (by decide)
          have q19960 := mm_leL (mm_le c14697) q19958 q19959
          have q19961 := mm_ltL (h := 387) (mm_nle c14700) q19959 q19960 (by decide)
          have q19962 := mm_leL (mm_le c14697) q19960 q19961
          have q19963 := mm_ltL (h := 386) (mm_nle c14700) q19961 q19962 (by decide)
          have q19964 := mm_leL (mm_le c14697) q19962 q19963
          have q19965 := mm_ltL (h := 385) (mm_nle c14700) q19963 q19964 (by decide)
          have q19966 := mm_leL (mm_le c14697) q19964 q19965
          have q19967 := mm_ltL (h := 384) (mm_nle c14700) q19965 q19966 (by decide)
          have q19968 := mm_leL (mm_le c14697) q19966 q19967
          have q19969 := mm_ltL (h := 383) (mm_nle c14700) q19967 q19968 (by decide)
          have q19970 := mm_leL (mm_le c14697) q19968 q19969
          have q19971 := mm_ltL (h := 382) (mm_nle c14700) q19969 q19970 (by decide)
          have q19972 := mm_leL (mm_le c14697) q19970 q19971
          have q19973 := mm_ltL (h := 381) (mm_nle c14700) q19971 q19972 (by decide)
          have q19974 := mm_leL (mm_le c14697) q19972 q19973
          have q19975 := mm_ltL (h := 380) (mm_nle c14700) q19973 q19974 (by decide)
          have q19976 := mm_leL (mm_le c14697) q19974 q19975
          have q19977 := mm_ltL (h := 379) (mm_nle c14700) q19975 q19976 (by decide)
          have q19978 := mm_leL (mm_le c14697) q19976 q19977
          have q19979 := mm_ltL (h := 378) (mm_nle c14700) q19977 q19978 (by decide)
          have q19980 := mm_leL (mm_le c14697) q19978 q19979
          have q19981 := mm_ltL (h := 377) (mm_nle c14700) q19979 q19980 (by decide)
          have q19982 := mm_leL (mm_le c14697) q19980 q19981
          have q19983 := mm_ltL (h := 376) (mm_nle c14700) q19981 q19982 (by decide)
          have q19984 := mm_leL (mm_le c14697) q19982 q19983
          have q19985 := mm_ltL (h := 375) (mm_nle c14700) q19983 q19984 (by decide)
          have q19986 := mm_leL (mm_le c14697) q19984 q19985
          have q19987 := mm_ltL (h := 374) (mm_nle c14700) q19985 q19986 (by decide)
          have q19988 := mm_leL (mm_le c14697) q19986 q19987
          have q19989 := mm_ltL (h := 373) (mm_nle c14700) q19987 q19988 (by decide)
          have q19990 := mm_leL (mm_le c14697) q19988 q19989
          have q19991 := mm_ltL (h := 372) (mm_nle c14700) q19989 q19990 (by decide)
          have q19992 := mm_leL (mm_le c14697) q19990 q19991
          have q19993 := mm_ltL (h := 371) (mm_nle c14700) q19991 q19992 (by decide)
          have q19994 := mm_leL (mm_le c14697) q19992 q19993
          have q19995 := mm_ltL (h := 370) (mm_nle c14700) q19993 q19994 (by decide)
          have q19996 := mm_leL (mm_le c14697) q19994 q19995
          have q19997 := mm_ltL (h := 369) (mm_nle c14700) q19995 q19996 (by decide)
          have q19998 := mm_leL (mm_le c14697) q19996 q19997
          have q19999 := mm_ltL (h := 368) (mm_nle c14700) q19997 q19998 (by decide)
          have q20000 := mm_leL (mm_le c14697) q19998 q19999
          have q20001 := mm_ltL (h := 367) (mm_nle c14700) q19999 q20000 (by decide)
          have q20002 := mm_leL (mm_le c14697) q20000 q20001
          have q20003 := mm_ltL (h := 366) (mm_nle c14700) q20001 q20002 (by decide)
          have q20004 := mm_leL (mm_le c14697) q20002 q20003
          have q20005 := mm_ltL (h := 365) (mm_nle c14700) q20003 q20004 (by decide)
          have q20006 := mm_leL (mm_le c14697) q20004 q20005
          have q20007 := mm_ltL (h := 364) (mm_nle c14700) q20005 q20006 (by decide)
          have q20008 := mm_leL (mm_le c14697) q20006 q20007
          have q20009 := mm_ltL (h := 363) (mm_nle c14700) q20007 q20008 (by decide)
          have q20010 := mm_leL (mm_le c14697) q20008 q20009
          have q20011 := mm_ltL (h := 362) (mm_nle c14700) q20009 q20010 (by decide)
          have q20012 := mm_leL (mm_le c14697) q20010 q20011
          have q20013 := mm_ltL (h := 361) (mm_nle c14700) q20011 q20012 (by decide)
          have q20014 := mm_leL (mm_le c14697) q20012 q20013
          have q20015 := mm_ltL (h := 360) (mm_nle c14700) q20013 q20014 (by decide)
          have q20016 := mm_leL (mm_le c14697) q20014 q20015
          have q20017 := mm_ltL (h := 359) (mm_nle c14700) q20015 q20016 (by decide)
          have q20018 := mm_leL (mm_le c14697) q20016 q20017
          have q20019 := mm_ltL (h := 358) (mm_nle c14700) q20017 q20018 (by decide)
          have q20020 := mm_leL (mm_le c14697) q20018 q20019
          have q20021 := mm_ltL (h := 357) (mm_nle c14700) q20019 q20020 (by decide)
          have q20022 := mm_leL (mm_le c14697) q20020 q20021
          have q20023 := mm_ltL (h := 356) (mm_nle c14700) q20021 q20022 (by decide)
          have q20024 := mm_leL (mm_le c14697) q20022 q20023
          have q20025 := mm_ltL (h := 355) (mm_nle c14700) q20023 q20024 (by decide)
          have q20026 := mm_leL (mm_le c14697) q20024 q20025
          have q20027 := mm_ltL (h := 354) (mm_nle c14700) q20025 q20026 (by decide)
          have q20028 := mm_leL (mm_le c14697) q20026 q20027
          have q20029 := mm_ltL (h := 353) (mm_nle c14700) q20027 q20028 (by decide)
          have q20030 := mm_leL (mm_le c14697) q20028 q20029
          have q20031 := mm_ltL (h := 352) (mm_nle c14700) q20029 q20030 (by decide)
          have q20032 := mm_leL (mm_le c14697) q20030 q20031
          have q20033 := mm_ltL (h := 351) (mm_nle c14700) q20031 q20032 (by decide)
          have q20034 := mm_leL (mm_le c14697) q20032 q20033
          have q20035 := mm_ltL (h := 350) (mm_nle c14700) q20033 q20034 (by decide)
          have q20036 := mm_leL (mm_le c14697) q20034 q20035
          have q20037 := mm_ltL (h := 349) (mm_nle c14700) q20035 q20036 (by decide)
          have q20038 := mm_leL (mm_le c14697) q20036 q20037
          have q20039 := mm_ltL (h := 348) (mm_nle c14700) q20037 q20038 (by decide)
          have q20040 := mm_leL (mm_le c14697) q20038 q20039
          have q20041 := mm_ltL (h := 347) (mm_nle c14700) q20039 q20040 (by decide)
          have q20042 := mm_leL (mm_le c14697) q20040 q20041
          have q20043 := mm_ltL (h := 346) (mm_nle c14700) q20041 q20042 (by decide)
          have q20044 := mm_leL (mm_le c14697) q20042 q20043
          have q20045 := mm_ltL (h := 345) (mm_nle c14700) q20043 q20044 (by decide)
          have q20046 := mm_leL (mm_le c14697) q20044 q20045
          have q20047 := mm_ltL (h := 344) (mm_nle c14700) q20045 q20046 (by decide)
          have q20048 := mm_leL (mm_le c14697) q20046 q20047
          have q20049 := mm_ltL (h := 343) (mm_nle c14700) q20047 q20048 (by decide)
          have q20050 := mm_leL (mm_le c14697) q20048 q20049
          have q20051 := mm_ltL (h := 342) (mm_nle c14700) q20049 q20050 (by decide)
          have q20052 := mm_leL (mm_le c14697) q20050 q20051
          have q20053 := mm_ltL (h := 341) (mm_nle c14700) q20051 q20052 (by decide)
          have q20054 := mm_leL (mm_le c14697) q20052 q20053
          have q20055 := mm_ltL (h := 340) (mm_nle c14700) q20053 q20054 (by decide)
          have q20056 := mm_leL (mm_le c14697) q20054 q20055
          have q20057 := mm_ltL (h := 339) (mm_nle c14700) q20055 q20056 (by decide)
          have q20058 := mm_leL (mm_le c14697) q20056 q20057
          have q20059 := mm_ltL (h := 338) (mm_nle c14700) q20057 q20058 (by decide)
          have q20060 := mm_leL (mm_le c14697) q20058 q20059
          have q20061 := mm_ltL (h := 337) (mm_nle c14700) q20059 q20060 (by decide)
          have q20062 := mm_leL (mm_le c14697) q20060 q20061
          have q20063 := mm_ltL (h := 336) (mm_nle c14700) q20061 q20062 (by decide)
          have q20064 := mm_leL (mm_le c14697) q20062 q20063
          have q20065 := mm_ltL (h := 335) (mm_nle c14700) q20063 q20064 (by decide)
          have q20066 := mm_leL (mm_le c14697) q20064 q20065
          have q20067 := mm_ltL (h := 334) (mm_nle c14700) q20065 q20066 (by decide)
          have q20068 := mm_leL (mm_le c14697) q20066 q20067
          have q20069 := mm_ltL (h := 333) (mm_nle c14700) q20067 q20068 (by decide)
          have q20070 := mm_leL (mm_le c14697) q20068 q20069
          have q20071 := mm_ltL (h := 332) (mm_nle c14700) q20069 q20070 (by decide)
          have q20072 := mm_leL (mm_le c14697) q20070 q20071
          have q20073 := mm_ltL (h := 331) (mm_nle c14700) q20071 q20072 (by decide)
          have q20074 := mm_leL (mm_le c14697) q20072 q20073
          have q20075 := mm_ltL (h := 330) (mm_nle c14700) q20073 q20074 (by decide)
          have q20076 := mm_leL (mm_le c14697) q20074 q20075
          have q20077 := mm_ltL (h := 329) (mm_nle c14700) q20075 q20076 (by decide)
          have q20078 := mm_leL (mm_le c14697) q20076 q20077
          have q20079 := mm_ltL (h := 328) (mm_nle c14700) q20077 q20078 (by decide)
          have q20080 := mm_leL (mm_le c14697) q20078 q20079
          have q20081 := mm_ltL (h := 327) (mm_nle c14700) q20079 q20080 (by decide)
          have q20082 := mm_leL (mm_le c14697) q20080 q20081
          have q20083 := mm_ltL (h := 326) (mm_nle c14700) q20081 q20082 (by decide)
          have q20084 := mm_leL (mm_le c14697) q20082 q20083
          have q20085 := mm_ltL (h := 325) (mm_nle c14700) q20083 q20084 (by decide)
          have q20086 := mm_leL (mm_le c14697) q20084 q20085
          have q20087 := mm_ltL (h := 324) (mm_nle c14700) q20085 q20086 (by decide)
          have q20088 := mm_leL (mm_le c14697) q20086 q20087
          have q20089 := mm_ltL (h := 323) (mm_nle c14700) q20087 q20088 (by decide)
          have q20090 := mm_leL (mm_le c14697) q20088 q20089
          have q20091 := mm_ltL (h := 322) (mm_nle c14700) q20089 q20090 (by decide)
          have q20092 := mm_leL (mm_le c14697) q20090 q20091
          have q20093 := mm_ltL (h := 321) (mm_nle c14700) q20091 q20092 (by decide)
          have q20094 := mm_leL (mm_le c14697) q20092 q20093
          have q20095 := mm_ltL (h := 320) (mm_nle c14700) q20093 q20094 (by decide)
          have q20096 := mm_leL (mm_le c14697) q20094 q20095
          have q20097 := mm_ltL (h := 319) (mm_nle c14700) q20095 q20096 (by decide)
          have q20098 := mm_leL (mm_le c14697) q20096 q20097
          have q20099 := mm_ltL (h := 318) (mm_nle c14700) q20097 q20098 (by decide)
          have q20100 := mm_leL (mm_le c14697) q20098 q20099
          have q20101 := mm_ltL (h := 317) (mm_nle c14700) q20099 q20100 (by decide)
          have q20102 := mm_leL (mm_le c14697) q20100 q20101
          have q20103 := mm_ltL (h := 316) (mm_nle c14700) q20101 q20102 (by decide)
          have q20104 := mm_leL (mm_le c14697) q20102 q20103
          have q20105 := mm_ltL (h := 315) (mm_nle c14700) q20103 q20104 (by decide)
          have q20106 := mm_leL (mm_le c14697) q20104 q20105
          have q20107 := mm_ltL (h := 314) (mm_nle c14700) q20105 q20106 (by decide)
          have q20108 := mm_leL (mm_le c14697) q20106 q20107
          have q20109 := mm_ltL (h := 313) (mm_nle c14700) q20107 q20108 (by decide)
          have q20110 := mm_leL (mm_le c14697) q20108 q20109
          have q20111 := mm_ltL (h := 312) (mm_nle c14700) q20109 q20110 (by decide)
          have q20112 := mm_leL (mm_le c14697) q20110 q20111
          have q20113 := mm_ltL (h := 311) (mm_nle c14700) q20111 q20112 (by decide)
          have q20114 := mm_leL (mm_le c14697) q20112 q20113
          have q20115 := mm_ltL (h := 310) (mm_nle c14700) q20113 q20114 (by decide)
          have q20116 := mm_leL (mm_le c14697) q20114 q20115
          have q20117 := mm_ltL (h := 309) (mm_nle c14700) q20115 q20116 (by decide)
          have q20118 := mm_leL (mm_le c14697) q20116 q20117
          have q20119 := mm_ltL (h := 308) (mm_nle c14700) q20117 q20118 (by decide)
          have q20120 := mm_leL (mm_le c14697) q20118 q20119
          have q20121 := mm_ltL (h := 307) (mm_nle c14700) q20119 q20120 (by decide)
          have q20122 := mm_leL (mm_le c14697) q20120 q20121
          have q20123 := mm_ltL (h := 306) (mm_nle c14700) q20121 q20122 (by decide)
          have q20124 := mm_leL (mm_le c14697) q20122 q20123
          have q20125 := mm_ltL (h := 305) (mm_nle c14700) q20123 q20124 (by decide)
          have q20126 := mm_leL (mm_le c14697) q20124 q20125
          have q20127 := mm_ltL (h := 304) (mm_nle c14700) q20125 q20126 (by decide)
          have q20128 := mm_leL (mm_le c14697) q20126 q20127
          have q20129 := mm_ltL (h := 303) (mm_nle c14700) q20127 q20128 (by decide)
          have q20130 := mm_leL (mm_le c14697) q20128 q20129
          have q20131 := mm_ltL (h := 302) (mm_nle c14700) q20129 q20130 (by decide)
          have q20132 := mm_leL (mm_le c14697) q20130 q20131
          have q20133 := mm_ltL (h := 301) (mm_nle c14700) q20131 q20132 (by decide)
          have q20134 := mm_leL (mm_le c14697) q20132 q20133
          have q20135 := mm_ltL (h := 300) (mm_nle c14700) q20133 q20134 (by decide)
          have q20136 := mm_leL (mm_le c14697) q20134 q20135
          have q20137 := mm_ltL (h := 299) (mm_nle c14700) q20135 q20136 (by decide)
          have q20138 := mm_leL (mm_le c14697) q20136 q20137
          have q20139 := mm_ltL (h := 298) (mm_nle c14700) q20137 q20138 (by decide)
          have q20140 := mm_leL (mm_le c14697) q20138 q20139
          have q20141 := mm_ltL (h := 297) (mm_nle c14700) q20139 q20140 (by decide)
          have q20142 := mm_leL (mm_le c14697) q20140 q20141
          have q20143 := mm_ltL (h := 296) (mm_nle c14700) q20141 q20142 (by decide)
          have q20144 := mm_leL (mm_le c14697) q20142 q20143
          have q20145 := mm_ltL (h := 295) (mm_nle c14700) q20143 q20144 (by decide)
          have q20146 := mm_leL (mm_le c14697) q20144 q20145
          have q20147 := mm_ltL (h := 294) (mm_nle c14700) q20145 q20146 (by decide)
          have q20148 := mm_leL (mm_le c14697) q20146 q20147
          have q20149 := mm_ltL (h := 293) (mm_nle c14700) q20147 q20148 (by decide)
          have q20150 := mm_leL (mm_le c14697) q20148 q20149
          have q20151 := mm_ltL (h := 292) (mm_nle c14700) q20149 q20150 (by decide)
          have q20152 := mm_leL (mm_le c14697) q20150 q20151
          have q20153 := mm_ltL (h := 291) (mm_nle c14700) q20151 q20152 (by decide)
          have q20154 := mm_leL (mm_le c14697) q20152 q20153
          have q20155 := mm_ltL (h := 290) (mm_nle c14700) q20153 q20154 (by decide)
          have q20156 := mm_leL (mm_le c14697) q20154 q20155
          have q20157 := mm_ltL (h := 289) (mm_nle c14700) q20155 q20156 (by decide)
          have q20158 := mm_leL (mm_le c14697) q20156 q20157
          have q20159 := mm_ltL (h := 288) (mm_nle c14700) q20157 q20158 (by decide)
          have q20160 := mm_leL (mm_le c14697) q20158 q20159
          have q20161 := mm_ltL (h := 287) (mm_nle c14700) q20159 q20160 (by decide)
          have q20162 := mm_leL (mm_le c14697) q20160 q20161
          have q20163 := mm_ltL (h := 286) (mm_nle c14700) q20161 q20162 (by decide)
          have q20164 := mm_leL (mm_le c14697) q20162 q20163
          have q20165 := mm_ltL (h := 285) (mm_nle c14700) q20163 q20164 (by decide)
          have q20166 := mm_leL (mm_le c14697) q20164 q20165
          have q20167 := mm_ltL (h := 284) (mm_nle c14700) q20165 q20166 (by decide)
          have q20168 := mm_leL (mm_le c14697) q20166 q20167
          have q20169 := mm_ltL (h := 283) (mm_nle c14700) q20167 q20168 (by decide)
          have q20170 := mm_leL (mm_le c14697) q20168 q20169
          have q20171 := mm_ltL (h := 282) (mm_nle c14700) q20169 q20170 (by decide)
          have q20172 := mm_leL (mm_le c14697) q20170 q20171
          have q20173 := mm_ltL (h := 281) (mm_nle c14700) q20171 q20172 (by decide)
          have q20174 := mm_leL (mm_le c14697) q20172 q20173
          have q20175 := mm_ltL (h := 280) (mm_nle c14700) q20173 q20174 (by decide)
          have q20176 := mm_leL (mm_le c14697) q20174 q20175
          have q20177 := mm_ltL (h := 279) (mm_nle c14700) q20175 q20176 (by decide)
          have q20178 := mm_leL (mm_le c14697) q20176 q20177
          have q20179 := mm_ltL (h := 278) (mm_nle c14700) q20177 q20178 (by decide)
          have q20180 := mm_leL (mm_le c14697) q20178 q20179
          have q20181 := mm_ltL (h := 277) (mm_nle c14700) q20179 q20180 (by decide)
          have q20182 := mm_leL (mm_le c14697) q20180 q20181
          have q20183 := mm_ltL (h := 276) (mm_nle c14700) q20181 q20182 (by decide)
          have q20184 := mm_leL (mm_le c14697) q20182 q20183
          have q20185 := mm_ltL (h := 275) (mm_nle c14700) q20183 q20184 (by decide)
          have q20186 := mm_leL (mm_le c14697) q20184 q20185
          have q20187 := mm_ltL (h := 274) (mm_nle c14700) q20185 q20186 (by decide)
          have q20188 := mm_leL (mm_le c14697) q20186 q20187
          have q20189 := mm_ltL (h := 273) (mm_nle c14700) q20187 q20188 (by decide)
          have q20190 := mm_leL (mm_le c14697) q20188 q20189
          have q20191 := mm_ltL (h := 272) (mm_nle c14700) q20189 q20190 (by decide)
          have q20192 := mm_leL (mm_le c14697) q20190 q20191
          have q20193 := mm_ltL (h := 271) (mm_nle c14700) q20191 q20192 (by decide)
          have q20194 := mm_leL (mm_le c14697) q20192 q20193
          have q20195 := mm_ltL (h := 270) (mm_nle c14700) q20193 q20194 (by decide)
          have q20196 := mm_leL (mm_le c14697) q20194 q20195
          have q20197 := mm_ltL (h := 269) (mm_nle c14700) q20195 q20196 (by decide)
          have q20198 := mm_leL (mm_le c14697) q20196 q20197
          have q20199 := mm_ltL (h := 268) (mm_nle c14700) q20197 q20198 (by decide)
          have q20200 := mm_leL (mm_le c14697) q20198 q20199
          have q20201 := mm_ltL (h := 267) (mm_nle c14700) q20199 q20200 (by decide)
          have q20202 := mm_leL (mm_le c14697) q20200 q20201
          have q20203 := mm_ltL (h := 266) (mm_nle c14700) q20201 q20202 (by decide)
          have q20204 := mm_leL (mm_le c14697) q20202 q20203
          have q20205 := mm_ltL (h := 265) (mm_nle c14700) q20203 q20204 (by decide)
          have q20206 := mm_leL (mm_le c14697) q20204 q20205
          have q20207 := mm_ltL (h := 264) (mm_nle c14700) q20205 q20206 (by decide)
          have q20208 := mm_leL (mm_le c14697) q20206 q20207
          have q20209 := mm_ltL (h := 263) (mm_nle c14700) q20207 q20208 (by decide)
          have q20210 := mm_leL (mm_le c14697) q20208 q20209
          have q20211 := mm_ltL (h := 262) (mm_nle c14700) q20209 q20210 (by decide)
          have q20212 := mm_leL (mm_le c14697) q20210 q20211
          have q20213 := mm_ltL (h := 261) (mm_nle c14700) q20211 q20212 (by decide)
          have q20214 := mm_leL (mm_le c14697) q20212 q20213
          have q20215 := mm_ltL (h := 260) (mm_nle c14700) q20213 q20214 (by decide)
          have q20216 := mm_leL (mm_le c14697) q20214 q20215
          have q20217 := mm_ltL (h := 259) (mm_nle c14700) q20215 q20216 (by decide)
          have q20218 := mm_leL (mm_le c14697) q20216 q20217
          have q20219 := mm_ltL (h := 258) (mm_nle c14700) q20217 q20218 (by decide)
          have q20220 := mm_leL (mm_le c14697) q20218 q20219
          have q20221 := mm_ltL (h := 257) (mm_nle c14700) q20219 q20220 (by decide)
          have q20222 := mm_leL (mm_le c14697) q20220 q20221
          have q20223 := mm_ltL (h := 256) (mm_nle c14700) q20221 q20222 (by decide)
          have q20224 := mm_leL (mm_le c14697) q20222 q20223
          have q20225 := mm_ltL (h := 255) (mm_nle c14700) q20223 q20224 (by decide)
          have q20226 := mm_leL (mm_le c14697) q20224 q20225
          have q20227 := mm_ltL (h := 254) (mm_nle c14700) q20225 q20226 (by decide)
          have q20228 := mm_leL (mm_le c14697) q20226 q20227
          have q20229 := mm_ltL (h := 253) (mm_nle c14700) q20227 q20228 (by decide)
          have q20230 := mm_leL (mm_le c14697) q20228 q20229
          have q20231 := mm_ltL (h := 252) (mm_nle c14700) q20229 q20230 (by decide)
          have q20232 := mm_leL (mm_le c14697) q20230 q20231
          have q20233 := mm_ltL (h := 251) (mm_nle c14700) q20231 q20232 (by decide)
          have q20234 := mm_leL (mm_le c14697) q20232 q20233
          have q20235 := mm_ltL (h := 250) (mm_nle c14700) q20233 q20234 (by decide)
          have q20236 := mm_leL (mm_le c14697) q20234 q20235
          have q20237 := mm_ltL (h := 249) (mm_nle c14700) q20235 q20236 (by decide)
          have q20238 := mm_leL (mm_le c14697) q20236 q20237
          have q20239 := mm_ltL (h := 248) (mm_nle c14700) q20237 q20238 (by decide)
          have q20240 := mm_leL (mm_le c14697) q20238 q20239
          have q20241 := mm_ltL (h := 247) (mm_nle c14700) q20239 q20240 (by decide)
          have q20242 := mm_leL (mm_le c14697) q20240 q20241
          have q20243 := mm_ltL (h := 246) (mm_nle c14700) q20241 q20242 (by decide)
          have q20244 := mm_leL (mm_le c14697) q20242 q20243
          have q20245 := mm_ltL (h := 245) (mm_nle c14700) q20243 q20244 (by decide)
          have q20246 := mm_leL (mm_le c14697) q20244 q20245
          have q20247 := mm_ltL (h := 244) (mm_nle c14700) q20245 q20246 (by decide)
          have q20248 := mm_leL (mm_le c14697) q20246 q20247
          have q20249 := mm_ltL (h := 243) (mm_nle c14700) q20247 q20248 (by decide)
          have q20250 := mm_leL (mm_le c14697) q20248 q20249
          have q20251 := mm_ltL (h := 242) (mm_nle c14700) q20249 q20250 (by decide)
          have q20252 := mm_leL (mm_le c14697) q20250 q20251
          have q20253 := mm_ltL (h := 241) (mm_nle c14700) q20251 q20252 (by decide)
          have q20254 := mm_leL (mm_le c14697) q20252 q20253
          have q20255 := mm_ltL (h := 240) (mm_nle c14700) q20253 q20254 (by decide)
          have q20256 := mm_leL (mm_le c14697) q20254 q20255
          have q20257 := mm_ltL (h := 239) (mm_nle c14700) q20255 q20256 (by decide)
          have q20258 := mm_leL (mm_le c14697) q20256 q20257
          have q20259 := mm_ltL (h := 238) (mm_nle c14700) q20257 q20258 (by decide)
          have q20260 := mm_leL (mm_le c14697) q20258 q20259
          have q20261 := mm_ltL (h := 237) (mm_nle c14700) q20259 q20260 (by decide)
          have q20262 := mm_leL (mm_le c14697) q20260 q20261
          have q20263 := mm_ltL (h := 236) (mm_nle c14700) q20261 q20262 (by decide)
          have q20264 := mm_leL (mm_le c14697) q20262 q20263
          have q20265 := mm_ltL (h := 235) (mm_nle c14700) q20263 q20264 (by decide)
          have q20266 := mm_leL (mm_le c14697) q20264 q20265
          have q20267 := mm_ltL (h := 234) (mm_nle c14700) q20265 q20266 (by decide)
          have q20268 := mm_leL (mm_le c14697) q20266 q20267
          have q20269 := mm_ltL (h := 233) (mm_nle c14700) q20267 q20268 (by decide)
          have q20270 := mm_leL (mm_le c14697) q20268 q20269
          have q20271 := mm_ltL (h := 232) (mm_nle c14700) q20269 q20270 (by decide)
          have q20272 := mm_leL (mm_le c14697) q20270 q20271
          have q20273 := mm_ltL (h := 231) (mm_nle c14700) q20271 q20272 (by decide)
          have q20274 := mm_leL (mm_le c14697) q20272 q20273
          have q20275 := mm_ltL (h := 230) (mm_nle c14700) q20273 q20274 (by decide)
          have q20276 := mm_leL (mm_le c14697) q20274 q20275
          have q20277 := mm_ltL (h := 229) (mm_nle c14700) q20275 q20276 (by decide)
          have q20278 := mm_leL (mm_le c14697) q20276 q20277
          have q20279 := mm_ltL (h := 228) (mm_nle c14700) q20277 q20278 (by decide)
          have q20280 := mm_leL (mm_le c14697) q20278 q20279
          have q20281 := mm_ltL (h := 227) (mm_nle c14700) q20279 q20280 (by decide)
          have q20282 := mm_leL (mm_le c14697) q20280 q20281
          have q20283 := mm_ltL (h := 226) (mm_nle c14700) q20281 q20282 (by decide)
          have q20284 := mm_leL (mm_le c14697) q20282 q20283
          have q20285 := mm_ltL (h := 225) (mm_nle c14700) q20283 q20284 (by decide)
          have q20286 := mm_leL (mm_le c14697) q20284 q20285
          have q20287 := mm_ltL (h := 224) (mm_nle c14700) q20285 q20286 (by decide)
          have q20288 := mm_leL (mm_le c14697) q20286 q20287
          have q20289 := mm_ltL (h := 223) (mm_nle c14700) q20287 q20288 (by decide)
          have q20290 := mm_leL (mm_le c14697) q20288 q20289
          have q20291 := mm_ltL (h := 222) (mm_nle c14700) q20289 q20290 (by decide)
          have q20292 := mm_leL (mm_le c14697) q20290 q20291
          have q20293 := mm_ltL (h := 221) (mm_nle c14700) q20291 q20292 (by decide)
          have q20294 := mm_leL (mm_le c14697) q20292 q20293
          have q20295 := mm_ltL (h := 220) (mm_nle c14700) q20293 q20294 (by decide)
          have q20296 := mm_leL (mm_le c14697) q20294 q20295
          have q20297 := mm_ltL (h := 219) (mm_nle c14700) q20295 q20296 (by decide)
          have q20298 := mm_leL (mm_le c14697) q20296 q20297
          have q20299 := mm_ltL (h := 218) (mm_nle c14700) q20297 q20298 (by decide)
          have q20300 := mm_leL (mm_le c14697) q20298 q20299
          have q20301 := mm_ltL (h := 217) (mm_nle c14700) q20299 q20300 (by decide)
          have q20302 := mm_leL (mm_le c14697) q20300 q20301
          have q20303 := mm_ltL (h := 216) (mm_nle c14700) q20301 q20302 (by decide)
          have q20304 := mm_leL (mm_le c14697) q20302 q20303
          have q20305 := mm_ltL (h := 215) (mm_nle c14700) q20303 q20304 (by decide)
          have q20306 := mm_leL (mm_le c14697) q20304 q20305
          have q20307 := mm_ltL (h := 214) (mm_nle c14700) q20305 q20306 (by decide)
          have q20308 := mm_leL (mm_le c14697) q20306 q20307
          have q20309 := mm_ltL (h := 213) (mm_nle c14700) q20307 q20308 (by decide)
          have q20310 := mm_leL (mm_le c14697) q20308 q20309
          have q20311 := mm_ltL (h := 212) (mm_nle c14700) q20309 q20310 (by decide)
          have q20312 := mm_leL (mm_le c14697) q20310 q20311
          have q20313 := mm_ltL (h := 211) (mm_nle c14700) q20311 q20312 (by decide)
          have q20314 := mm_leL (mm_le c14697) q20312 q20313
          have q20315 := mm_ltL (h := 210) (mm_nle c14700) q20313 q20314 (by decide)
          have q20316 := mm_leL (mm_le c14697) q20314 q20315
          have q20317 := mm_ltL (h := 209) (mm_nle c14700) q20315 q20316 (by decide)
          have q20318 := mm_leL (mm_le c14697) q20316 q20317
          have q20319 := mm_ltL (h := 208) (mm_nle c14700) q20317 q20318 (by decide)
          have q20320 := mm_leL (mm_le c14697) q20318 q20319
          have q20321 := mm_ltL (h := 207) (mm_nle c14700) q20319 q20320 (by decide)
          have q20322 := mm_leL (mm_le c14697) q20320 q20321
          have q20323 := mm_ltL (h := 206) (mm_nle c14700) q20321 q20322 (by decide)
          have q20324 := mm_leL (mm_le c14697) q20322 q20323
          have q20325 := mm_ltL (h := 205) (mm_nle c14700) q20323 q20324 (by decide)
          have q20326 := mm_leL (mm_le c14697) q20324 q20325
          have q20327 := mm_ltL (h := 204) (mm_nle c14700) q20325 q20326 (by decide)
          have q20328 := mm_leL (mm_le c14697) q20326 q20327
          have q20329 := mm_ltL (h := 203) (mm_nle c14700) q20327 q20328 (by decide)
          have q20330 := mm_leL (mm_le c14697) q20328 q20329
          have q20331 := mm_ltL (h := 202) (mm_nle c14700) q20329 q20330 (by decide)
          have q20332 := mm_leL (mm_le c14697) q20330 q20331
          have q20333 := mm_ltL (h := 201) (mm_nle c14700) q20331 q20332 (by decide)
          have q20334 := mm_leL (mm_le c14697) q20332 q20333
          have q20335 := mm_ltL (h := 200) (mm_nle c14700) q20333 q20334 (by decide)
          have q20336 := mm_leL (mm_le c14697) q20334 q20335
          have q20337 := mm_ltL (h := 199) (mm_nle c14700) q20335 q20336 (by decide)
          have q20338 := mm_leL (mm_le c14697) q20336 q20337
          have q20339 := mm_ltL (h := 198) (mm_nle c14700) q20337 q20338 (by decide)
          have q20340 := mm_leL (mm_le c14697) q20338 q20339
          have q20341 := mm_ltL (h := 197) (mm_nle c14700) q20339 q20340 (by decide)
          have q20342 := mm_leL (mm_le c14697) q20340 q20341
          have q20343 := mm_ltL (h := 196) (mm_nle c14700) q20341 q20342 (by decide)
          have q20344 := mm_leL (mm_le c14697) q20342 q20343
          have q20345 := mm_ltL (h := 195) (mm_nle c14700) q20343 q20344 (by decide)
          have q20346 := mm_leL (mm_le c14697) q20344 q20345
          have q20347 := mm_ltL (h := 194) (mm_nle c14700) q20345 q20346 (by decide)
          have q20348 := mm_leL (mm_le c14697) q20346 q20347
          have q20349 := mm_ltL (h := 193) (mm_nle c14700) q20347 q20348 (by decide)
          have q20350 := mm_leL (mm_le c14697) q20348 q20349
          have q20351 := mm_ltL (h := 192) (mm_nle c14700) q20349 q20350 (by decide)
          have q20352 := mm_leL (mm_le c14697) q20350 q20351
          have q20353 := mm_ltL (h := 191) (mm_nle c14700) q20351 q20352 (by decide)
          have q20354 := mm_leL (mm_le c14697) q20352 q20353
          have q20355 := mm_ltL (h := 190) (mm_nle c14700) q20353 q20354 (by decide)
          have q20356 := mm_leL (mm_le c14697) q20354 q20355
          have q20357 := mm_ltL (h := 189) (mm_nle c14700) q20355 q20356 (by decide)
          have q20358 := mm_leL (mm_le c14697) q20356 q20357
          have q20359 := mm_ltL (h := 188) (mm_nle c14700) q20357 q20358 (by decide)
          have q20360 := mm_leL (mm_le c14697) q20358 q20359
          have q20361 := mm_ltL (h := 187) (mm_nle c14700) q20359 q20360 (by decide)
          have q20362 := mm_leL (mm_le c14697) q20360 q20361
          have q20363 := mm_ltL (h := 186) (mm_nle c14700) q20361 q20362 (by decide)
          have q20364 := mm_leL (mm_le c14697) q20362 q20363
          have q20365 := mm_ltL (h := 185) (mm_nle c14700) q20363 q20364 (by decide)
          have q20366 := mm_leL (mm_le c14697) q20364 q20365
          have q20367 := mm_ltL (h := 184) (mm_nle c14700) q20365 q20366 (by decide)
          have q20368 := mm_leL (mm_le c14697) q20366 q20367
          have q20369 := mm_ltL (h := 183) (mm_nle c14700) q20367 q20368 (by decide)
          have q20370 := mm_leL (mm_le c14697) q20368 q20369
          have q20371 := mm_ltL (h := 182) (mm_nle c14700) q20369 q20370 (by decide)
          have q20372 := mm_leL (mm_le c14697) q20370 q20371
          have q20373 := mm_ltL (h := 181) (mm_nle c14700) q20371 q20372 (by decide)
          have q20374 := mm_leL (mm_le c14697) q20372 q20373
          have q20375 := mm_ltL (h := 180) (mm_nle c14700) q20373 q20374 (by decide)
          have q20376 := mm_leL (mm_le c14697) q20374 q20375
          have q20377 := mm_ltL (h := 179) (mm_nle c14700) q20375 q20376 (by decide)
          have q20378 := mm_leL (mm_le c14697) q20376 q20377
          have q20379 := mm_ltL (h := 178) (mm_nle c14700) q20377 q20378 (by decide)
          have q20380 := mm_leL (mm_le c14697) q20378 q20379
          have q20381 := mm_ltL (h := 177) (mm_nle c14700) q20379 q20380 (by decide)
          have q20382 := mm_leL (mm_le c14697) q20380 q20381
          have q20383 := mm_ltL (h := 176) (mm_nle c14700) q20381 q20382 (by decide)
          have q20384 := mm_leL (mm_le c14697) q20382 q20383
          have q20385 := mm_ltL (h := 175) (mm_nle c14700) q20383 q20384 (by decide)
          have q20386 := mm_leL (mm_le c14697) q20384 q20385
          have q20387 := mm_ltL (h := 174) (mm_nle c14700) q20385 q20386 (by decide)
          have q20388 := mm_leL (mm_le c14697) q20386 q20387
          have q20389 := mm_ltL (h := 173) (mm_nle c14700) q20387 q20388 (by decide)
          have q20390 := mm_leL (mm_le c14697) q20388 q20389
          have q20391 := mm_ltL (h := 172) (mm_nle c14700) q20389 q20390 (by decide)
          have q20392 := mm_leL (mm_le c14697) q20390 q20391
          have q20393 := mm_ltL (h := 171) (mm_nle c14700) q20391 q20392 (by decide)
          have q20394 := mm_leL (mm_le c14697) q20392 q20393
          have q20395 := mm_ltL (h := 170) (mm_nle c14700) q20393 q20394 (by decide)
          have q20396 := mm_leL (mm_le c14697) q20394 q20395
          have q20397 := mm_ltL (h := 169) (mm_nle c14700) q20395 q20396 (by decide)
          have q20398 := mm_leL (mm_le c14697) q20396 q20397
          have q20399 := mm_ltL (h := 168) (mm_nle c14700) q20397 q20398 (by decide)
          have q20400 := mm_leL (mm_le c14697) q20398 q20399
          have q20401 := mm_ltL (h := 167) (mm_nle c14700) q20399 q20400 (by decide)
          have q20402 := mm_leL (mm_le c14697) q20400 q20401
          have q20403 := mm_ltL (h := 166) (mm_nle c14700) q20401 q20402 (by decide)
          have q20404 := mm_leL (mm_le c14697) q20402 q20403
          have q20405 := mm_ltL (h := 165) (mm_nle c14700) q20403 q20404 (by decide)
          have q20406 := mm_leL (mm_le c14697) q20404 q20405
          have q20407 := mm_ltL (h := 164) (mm_nle c14700) q20405 q20406 (by decide)
          have q20408 := mm_leL (mm_le c14697) q20406 q20407
          have q20409 := mm_ltL (h := 163) (mm_nle c14700) q20407 q20408 (by decide)
          have q20410 := mm_leL (mm_le c14697) q20408 q20409
          have q20411 := mm_ltL (h := 162) (mm_nle c14700) q20409 q20410 (by decide)
          have q20412 := mm_leL (mm_le c14697) q20410 q20411
          have q20413 := mm_ltL (h := 161) (mm_nle c14700) q20411 q20412 (by decide)
          have q20414 := mm_leL (mm_le c14697) q20412 q20413
          have q20415 := mm_ltL (h := 160) (mm_nle c14700) q20413 q20414 (by decide)
          have q20416 := mm_leL (mm_le c14697) q20414 q20415
          have q20417 := mm_ltL (h := 159) (mm_nle c14700) q20415 q20416 (by decide)
          have q20418 := mm_leL (mm_le c14697) q20416 q20417
          have q20419 := mm_ltL (h := 158) (mm_nle c14700) q20417 q20418 (by decide)
          have q20420 := mm_leL (mm_le c14697) q20418 q20419
          have q20421 := mm_ltL (h := 157) (mm_nle c14700) q20419 q20420 (by decide)
          have q20422 := mm_leL (mm_le c14697) q20420 q20421
          have q20423 := mm_ltL (h := 156) (mm_nle c14700) q20421 q20422 (by decide)
          have q20424 := mm_leL (mm_le c14697) q20422 q20423
          have q20425 := mm_ltL (h := 155) (mm_nle c14700) q20423 q20424 (by decide)
          have q20426 := mm_leL (mm_le c14697) q20424 q20425
          have q20427 := mm_ltL (h := 154) (mm_nle c14700) q20425 q20426 (by decide)
          have q20428 := mm_leL (mm_le c14697) q20426 q20427
          have q20429 := mm_ltL (h := 153) (mm_nle c14700) q20427 q20428 (by decide)
          have q20430 := mm_leL (mm_le c14697) q20428 q20429
          have q20431 := mm_ltL (h := 152) (mm_nle c14700) q20429 q20430 (by decide)
          have q20432 := mm_leL (mm_le c14697) q20430 q20431
          have q20433 := mm_ltL (h := 151) (mm_nle c14700) q20431 q20432 (by decide)
          have q20434 := mm_leL (mm_le c14697) q20432 q20433
          have q20435 := mm_ltL (h := 150) (mm_nle c14700) q20433 q20434 (by decide)
          have q20436 := mm_leL (mm_le c14697) q20434 q20435
          have q20437 := mm_ltL (h := 149) (mm_nle c14700) q20435 q20436 (by decide)
          have q20438 := mm_leL (mm_le c14697) q20436 q20437
          have q20439 := mm_ltL (h := 148) (mm_nle c14700) q20437 q20438 (by decide)
          have q20440 := mm_leL (mm_le c14697) q20438 q20439
          have q20441 := mm_ltL (h := 147) (mm_nle c14700) q20439 q20440 (by decide)
          have q20442 := mm_leL (mm_le c14697) q20440 q20441
          have q20443 := mm_ltL (h := 146) (mm_nle c14700) q20441 q20442 (by decide)
          have q20444 := mm_leL (mm_le c14697) q20442 q20443
          have q20445 := mm_ltL (h := 145) (mm_nle c14700) q20443 q20444 (by decide)
          have q20446 := mm_leL (mm_le c14697) q20444 q20445
          have q20447 := mm_ltL (h := 144) (mm_nle c14700) q20445 q20446 (by decide)
          have q20448 := mm_leL (mm_le c14697) q20446 q20447
          have q20449 := mm_ltL (h := 143) (mm_nle c14700) q20447 q20448 (by decide)
          have q20450 := mm_leL (mm_le c14697) q20448 q20449
          have q20451 := mm_ltL (h := 142) (mm_nle c14700) q20449 q20450 (by decide)
          have q20452 := mm_leL (mm_le c14697) q20450 q20451
          have q20453 := mm_ltL (h := 141) (mm_nle c14700) q20451 q20452 (by decide)
          have q20454 := mm_leL (mm_le c14697) q20452 q20453
          have q20455 := mm_ltL (h := 140) (mm_nle c14700) q20453 q20454 (by decide)
          have q20456 := mm_leL (mm_le c14697) q20454 q20455
          have q20457 := mm_ltL (h := 139) (mm_nle c14700) q20455 q20456 (by decide)
          have q20458 := mm_leL (mm_le c14697) q20456 q20457
          have q20459 := mm_ltL (h := 138) (mm_nle c14700) q20457 q20458 (by decide)
          have q20460 := mm_leL (mm_le c14697) q20458 q20459
          have q20461 := mm_ltL (h := 137) (mm_nle c14700) q20459 q20460 (by decide)
          have q20462 := mm_leL (mm_le c14697) q20460 q20461
          have q20463 := mm_ltL (h := 136) (mm_nle c14700) q20461 q20462 (by decide)
          have q20464 := mm_leL (mm_le c14697) q20462 q20463
          have q20465 := mm_ltL (h := 135) (mm_nle c14700) q20463 q20464 (by decide)
          have q20466 := mm_leL (mm_le c14697) q20464 q20465
          have q20467 := mm_ltL (h := 134) (mm_nle c14700) q20465 q20466 (by decide)
          have q20468 := mm_leL (mm_le c14697) q20466 q20467
          have q20469 := mm_ltL (h := 133) (mm_nle c14700) q20467 q20468 (by decide)
          have q20470 := mm_leL (mm_le c14697) q20468 q20469
          have q20471 := mm_ltL (h := 132) (mm_nle c14700) q20469 q20470 (by decide)
          have q20472 := mm_leL (mm_le c14697) q20470 q20471
          have q20473 := mm_ltL (h := 131) (mm_nle c14700) q20471 q20472 (by decide)
          have q20474 := mm_leL (mm_le c14697) q20472 q20473
          have q20475 := mm_ltL (h := 130) (mm_nle c14700) q20473 q20474 (by decide)
          have q20476 := mm_leL (mm_le c14697) q20474 q20475
          have q20477 := mm_ltL (h := 129) (mm_nle c14700) q20475 q20476 (by decide)
          have q20478 := mm_leL (mm_le c14697) q20476 q20477
          have q20479 := mm_ltL (h := 128) (mm_nle c14700) q20477 q20478 (by decide)
          have q20480 := mm_leL (mm_le c14697) q20478 q20479
          have q20481 := mm_ltL (h := 127) (mm_nle c14700) q20479 q20480 (by decide)
          have q20482 := mm_leL (mm_le c14697) q20480 q20481
          have q20483 := mm_ltL (h := 126) (mm_nle c14700) q20481 q20482 (by decide)
          have q20484 := mm_leL (mm_le c14697) q20482 q20483
          have q20485 := mm_ltL (h := 125) (mm_nle c14700) q20483 q20484 (by decide)
          have q20486 := mm_leL (mm_le c14697) q20484 q20485
          have q20487 := mm_ltL (h := 124) (mm_nle c14700) q20485 q20486 (by decide)
          have q20488 := mm_leL (mm_le c14697) q20486 q20487
          have q20489 := mm_ltL (h := 123) (mm_nle c14700) q20487 q20488 (by decide)
          have q20490 := mm_leL (mm_le c14697) q20488 q20489
          have q20491 := mm_ltL (h := 122) (mm_nle c14700) q20489 q20490 (by decide)
          have q20492 := mm_leL (mm_le c14697) q20490 q20491
          have q20493 := mm_ltL (h := 121) (mm_nle c14700) q20491 q20492 (by decide)
          have q20494 := mm_leL (mm_le c14697) q20492 q20493
          have q20495 := mm_ltL (h := 120) (mm_nle c14700) q20493 q20494 (by decide)
          have q20496 := mm_leL (mm_le c14697) q20494 q20495
          have q20497 := mm_ltL (h := 119) (mm_nle c14700) q20495 q20496 (by decide)
          have q20498 := mm_leL (mm_le c14697) q20496 q20497
          have q20499 := mm_ltL (h := 118) (mm_nle c14700) q20497 q20498 (by decide)
          have q20500 := mm_leL (mm_le c14697) q20498 q20499
          have q20501 := mm_ltL (h := 117) (mm_nle c14700) q20499 q20500 (by decide)
          have q20502 := mm_leL (mm_le c14697) q20500 q20501
          have q20503 := mm_ltL (h := 116) (mm_nle c14700) q20501 q20502 (by decide)
          have q20504 := mm_leL (mm_le c14697) q20502 q20503
          have q20505 := mm_ltL (h := 115) (mm_nle c14700) q20503 q20504 (by decide)
          have q20506 := mm_leL (mm_le c14697) q20504 q20505
          have q20507 := mm_ltL (h := 114) (mm_nle c14700) q20505 q20506 (by decide)
          have q20508 := mm_leL (mm_le c14697) q20506 q20507
          have q20509 := mm_ltL (h := 113) (mm_nle c14700) q20507 q20508 (by decide)
          have q20510 := mm_leL (mm_le c14697) q20508 q20509
          have q20511 := mm_ltL (h := 112) (mm_nle c14700) q20509 q20510 (by decide)
          have q20512 := mm_leL (mm_le c14697) q20510 q20511
          have q20513 := mm_ltL (h := 111) (mm_nle c14700) q20511 q20512 (by decide)
          have q20514 := mm_leL (mm_le c14697) q20512 q20513
          have q20515 := mm_ltL (h := 110) (mm_nle c14700) q20513 q20514 (by decide)
          have q20516 := mm_leL (mm_le c14697) q20514 q20515
          have q20517 := mm_ltL (h := 109) (mm_nle c14700) q20515 q20516 (by decide)
          have q20518 := mm_leL (mm_le c14697) q20516 q20517
          have q20519 := mm_ltL (h := 108) (mm_nle c14700) q20517 q20518 (by decide)
          have q20520 := mm_leL (mm_le c14697) q20518 q20519
          have q20521 := mm_ltL (h := 107) (mm_nle c14700) q20519 q20520 (by decide)
          have q20522 := mm_leL (mm_le c14697) q20520 q20521
          have q20523 := mm_ltL (h := 106) (mm_nle c14700) q20521 q20522 (by decide)
          have q20524 := mm_leL (mm_le c14697) q20522 q20523
          have q20525 := mm_ltL (h := 105) (mm_nle c14700) q20523 q20524 (by decide)
          have q20526 := mm_leL (mm_le c14697) q20524 q20525
          have q20527 := mm_ltL (h := 104) (mm_nle c14700) q20525 q20526 (by decide)
          have q20528 := mm_leL (mm_le c14697) q20526 q20527
          have q20529 := mm_ltL (h := 103) (mm_nle c14700) q20527 q20528 (by decide)
          have q20530 := mm_leL (mm_le c14697) q20528 q20529
          have q20531 := mm_ltL (h := 102) (mm_nle c14700) q20529 q20530 (by decide)
          have q20532 := mm_leL (mm_le c14697) q20530 q20531
          have q20533 := mm_ltL (h := 101) (mm_nle c14700) q20531 q20532 (by decide)
          have q20534 := mm_leL (mm_le c14697) q20532 q20533
          have q20535 := mm_ltL (h := 100) (mm_nle c14700) q20533 q20534 (by decide)
          have q20536 := mm_leL (mm_le c14697) q20534 q20535
          have q20537 := mm_ltL (h := 99) (mm_nle c14700) q20535 q20536 (by decide)
          have q20538 := mm_leL (mm_le c14697) q20536 q20537
          have q20539 := mm_ltL (h := 98) (mm_nle c14700) q20537 q20538 (by decide)
          have q20540 := mm_leL (mm_le c14697) q20538 q20539
          have q20541 := mm_ltL (h := 97) (mm_nle c14700) q20539 q20540 (by decide)
          have q20542 := mm_leL (mm_le c14697) q20540 q20541
          have q20543 := mm_ltL (h := 96) (mm_nle c14700) q20541 q20542 (by decide)
          have q20544 := mm_leL (mm_le c14697) q20542 q20543
          have q20545 := mm_ltL (h := 95) (mm_nle c14700) q20543 q20544 (by decide)
          have q20546 := mm_leL (mm_le c14697) q20544 q20545
          have q20547 := mm_ltL (h := 94) (mm_nle c14700) q20545 q20546 (by decide)
          have q20548 := mm_leL (mm_le c14697) q20546 q20547
          have q20549 := mm_ltL (h := 93) (mm_nle c14700) q20547 q20548 (by decide)
          have q20550 := mm_leL (mm_le c14697) q20548 q20549
          have q20551 := mm_ltL (h := 92) (mm_nle c14700) q20549 q20550 (by decide)
          have q20552 := mm_leL (mm_le c14697) q20550 q20551
          have q20553 := mm_ltL (h := 91) (mm_nle c14700) q20551 q20552 (by decide)
          have q20554 := mm_leL (mm_le c14697) q20552 q20553
          have q20555 := mm_ltL (h := 90) (mm_nle c14700) q20553 q20554 (by decide)
          have q20556 := mm_leL (mm_le c14697) q20554 q20555
          have q20557 := mm_ltL (h := 89) (mm_nle c14700) q20555 q20556 (by decide)
          have q20558 := mm_leL (mm_le c14697) q20556 q20557
          have q20559 := mm_ltL (h := 88) (mm_nle c14700) q20557 q20558 (by decide)
          have q20560 := mm_leL (mm_le c14697) q20558 q20559
          have q20561 := mm_ltL (h := 87) (mm_nle c14700) q20559 q20560 (by decide)
          have q20562 := mm_leL (mm_le c14697) q20560 q20561
          have q20563 := mm_ltL (h := 86) (mm_nle c14700) q20561 q20562 (by decide)
          have q20564 := mm_leL (mm_le c14697) q20562 q20563
          have q20565 := mm_ltL (h := 85) (mm_nle c14700) q20563 q20564 (by decide)
          have q20566 := mm_leL (mm_le c14697) q20564 q20565
          have q20567 := mm_ltL (h := 84) (mm_nle c14700) q20565 q20566 (by decide)
          have q20568 := mm_leL (mm_le c14697) q20566 q20567
          have q20569 := mm_ltL (h := 83) (mm_nle c14700) q20567 q20568 (by decide)
          have q20570 := mm_leL (mm_le c14697) q20568 q20569
          have q20571 := mm_ltL (h := 82) (mm_nle c14700) q20569 q20570 (by decide)
          have q20572 := mm_leL (mm_le c14697) q20570 q20571
          have q20573 := mm_ltL (h := 81) (mm_nle c14700) q20571 q20572 (by decide)
          have q20574 := mm_leL (mm_le c14697) q20572 q20573
          have q20575 := mm_ltL (h := 80) (mm_nle c14700) q20573 q20574 (by decide)
          have q20576 := mm_leL (mm_le c14697) q20574 q20575
          have q20577 := mm_ltL (h := 79) (mm_nle c14700) q20575 q20576 (by decide)
          have q20578 := mm_leL (mm_le c14697) q20576 q20577
          have q20579 := mm_ltL (h := 78) (mm_nle c14700) q20577 q20578 (by decide)
          have q20580 := mm_leL (mm_le c14697) q20578 q20579
          have q20581 := mm_ltL (h := 77) (mm_nle c14700) q20579 q20580 (by decide)
          have q20582 := mm_leL (mm_le c14697) q20580 q20581
          have q20583 := mm_ltL (h := 76) (mm_nle c14700) q20581 q20582 (by decide)
          have q20584 := mm_leL (mm_le c14697) q20582 q20583
          have q20585 := mm_ltL (h := 75) (mm_nle c14700) q20583 q20584 (by decide)
          have q20586 := mm_leL (mm_le c14697) q20584 q20585
          have q20587 := mm_ltL (h := 74) (mm_nle c14700) q20585 q20586 (by decide)
          have q20588 := mm_leL (mm_le c14697) q20586 q20587
          have q20589 := mm_ltL (h := 73) (mm_nle c14700) q20587 q20588 (by decide)
          have q20590 := mm_leL (mm_le c14697) q20588 q20589
          have q20591 := mm_ltL (h := 72) (mm_nle c14700) q20589 q20590 (by decide)
          have q20592 := mm_leL (mm_le c14697) q20590 q20591
          have q20593 := mm_ltL (h := 71) (mm_nle c14700) q20591 q20592 (by decide)
          have q20594 := mm_leL (mm_le c14697) q20592 q20593
          have q20595 := mm_ltL (h := 70) (mm_nle c14700) q20593 q20594 (by decide)
          have q20596 := mm_leL (mm_le c14697) q20594 q20595
          have q20597 := mm_ltL (h := 69) (mm_nle c14700) q20595 q20596 (by decide)
          have q20598 := mm_leL (mm_le c14697) q20596 q20597
          have q20599 := mm_ltL (h := 68) (mm_nle c14700) q20597 q20598 (by decide)
          have q20600 := mm_leL (mm_le c14697) q20598 q20599
          have q20601 := mm_ltL (h := 67) (mm_nle c14700) q20599 q20600 (by decide)
          have q20602 := mm_leL (mm_le c14697) q20600 q20601
          have q20603 := mm_ltL (h := 66) (mm_nle c14700) q20601 q20602 (by decide)
          have q20604 := mm_leL (mm_le c14697) q20602 q20603
          have q20605 := mm_ltL (h := 65) (mm_nle c14700) q20603 q20604 (by decide)
          have q20606 := mm_leL (mm_le c14697) q20604 q20605
          have q20607 := mm_ltL (h := 64) (mm_nle c14700) q20605 q20606 (by decide)
          have q20608 := mm_leL (mm_le c14697) q20606 q20607
          have q20609 := mm_ltL (h := 63) (mm_nle c14700) q20607 q20608 (by decide)
          have q20610 := mm_leL (mm_le c14697) q20608 q20609
          have q20611 := mm_ltL (h := 62) (mm_nle c14700) q20609 q20610 (by decide)
          have q20612 := mm_leL (mm_le c14697) q20610 q20611
          have q20613 := mm_ltL (h := 61) (mm_nle c14700) q20611 q20612 (by decide)
          have q20614 := mm_leL (mm_le c14697) q20612 q20613
          have q20615 := mm_ltL (h := 60) (mm_nle c14700) q20613 q20614 (by decide)
          have q20616 := mm_leL (mm_le c14697) q20614 q20615
          have q20617 := mm_ltL (h := 59) (mm_nle c14700) q20615 q20616 (by decide)
          have q20618 := mm_leL (mm_le c14697) q20616 q20617
          have q20619 := mm_ltL (h := 58) (mm_nle c14700) q20617 q20618 (by decide)
          have q20620 := mm_leL (mm_le c14697) q20618 q20619
          have q20621 := mm_ltL (h := 57) (mm_nle c14700) q20619 q20620 (by decide)
          have q20622 := mm_leL (mm_le c14697) q20620 q20621
          have q20623 := mm_ltL (h := 56) (mm_nle c14700) q20621 q20622 (by decide)
          have q20624 := mm_leL (mm_le c14697) q20622 q20623
          have q20625 := mm_ltL (h := 55) (mm_nle c14700) q20623 q20624 (by decide)
          have q20626 := mm_leL (mm_le c14697) q20624 q20625
          have q20627 := mm_ltL (h := 54) (mm_nle c14700) q20625 q20626 (by decide)
          have q20628 := mm_leL (mm_le c14697) q20626 q20627
          have q20629 := mm_ltL (h := 53) (mm_nle c14700) q20627 q20628 (by decide)
          have q20630 := mm_leL (mm_le c14697) q20628 q20629
          have q20631 := mm_ltL (h := 52) (mm_nle c14700) q20629 q20630 (by decide)
          have q20632 := mm_leL (mm_le c14697) q20630 q20631
          have q20633 := mm_ltL (h := 51) (mm_nle c14700) q20631 q20632 (by decide)
          have q20634 := mm_leL (mm_le c14697) q20632 q20633
          have q20635 := mm_ltL (h := 50) (mm_nle c14700) q20633 q20634 (by decide)
          have q20636 := mm_leL (mm_le c14697) q20634 q20635
          have q20637 := mm_ltL (h := 49) (mm_nle c14700) q20635 q20636 (by decide)
          have q20638 := mm_leL (mm_le c14697) q20636 q20637
          have q20639 := mm_ltL (h := 48) (mm_nle c14700) q20637 q20638 (by decide)
          have q20640 := mm_leL (mm_le c14697) q20638 q20639
          have q20641 := mm_ltL (h := 47) (mm_nle c14700) q20639 q20640 (by decide)
          have q20642 := mm_leL (mm_le c14697) q20640 q20641
          have q20643 := mm_ltL (h := 46) (mm_nle c14700) q20641 q20642 (by decide)
          have q20644 := mm_leL (mm_le c14697) q20642 q20643
          have q20645 := mm_ltL (h := 45) (mm_nle c14700) q20643 q20644 (by decide)
          have q20646 := mm_leL (mm_le c14697) q20644 q20645
          have q20647 := mm_ltL (h := 44) (mm_nle c14700) q20645 q20646 (by decide)
          have q20648 := mm_leL (mm_le c14697) q20646 q20647
          have q20649 := mm_ltL (h := 43) (mm_nle c14700) q20647 q20648 (by decide)
          have q20650 := mm_leL (mm_le c14697) q20648 q20649
          have q20651 := mm_ltL (h := 42) (mm_nle c14700) q20649 q20650 (by decide)
          have q20652 := mm_leL (mm_le c14697) q20650 q20651
          have q20653 := mm_ltL (h := 41) (mm_nle c14700) q20651 q20652 (by decide)
          have q20654 := mm_leL (mm_le c14697) q20652 q20653
          have q20655 := mm_ltL (h := 40) (mm_nle c14700) q20653 q20654 (by decide)
          have q20656 := mm_leL (mm_le c14697) q20654 q20655
          have q20657 := mm_ltL (h := 39) (mm_nle c14700) q20655 q20656 (by decide)
          have q20658 := mm_leL (mm_le c14697) q20656 q20657
          have q20659 := mm_ltL (h := 38) (mm_nle c14700) q20657 q20658 (by decide)
          have q20660 := mm_leL (mm_le c14697) q20658 q20659
          have q20661 := mm_ltL (h := 37) (mm_nle c14700) q20659 q20660 (by decide)
          have q20662 := mm_leL (mm_le c14697) q20660 q20661
          have q20663 := mm_ltL (h := 36) (mm_nle c14700) q20661 q20662 (by decide)
          have q20664 := mm_leL (mm_le c14697) q20662 q20663
          have q20665 := mm_ltL (h := 35) (mm_nle c14700) q20663 q20664 (by decide)
          have q20666 := mm_leL (mm_le c14697) q20664 q20665
          have q20667 := mm_ltL (h := 34) (mm_nle c14700) q20665 q20666 (by decide)
          have q20668 := mm_leL (mm_le c14697) q20666 q20667
          have q20669 := mm_ltL (h := 33) (mm_nle c14700) q20667 q20668 (by decide)
          have q20670 := mm_leL (mm_le c14697) q20668 q20669
          have q20671 := mm_ltL (h := 32) (mm_nle c14700) q20669 q20670 (by decide)
          have q20672 := mm_leL (mm_le c14697) q20670 q20671
          have q20673 := mm_ltL (h := 31) (mm_nle c14700) q20671 q20672 (by decide)
          have q20674 := mm_leL (mm_le c14697) q20672 q20673
          have q20675 := mm_ltL (h := 30) (mm_nle c14700) q20673 q20674 (by decide)
          have q20676 := mm_leL (mm_le c14697) q20674 q20675
          have q20677 := mm_ltL (h := 29) (mm_nle c14700) q20675 q20676 (by decide)
          have q20678 := mm_leL (mm_le c14697) q20676 q20677
          have q20679 := mm_ltL (h := 28) (mm_nle c14700) q20677 q20678 (by decide)
          have q20680 := mm_leL (mm_le c14697) q20678 q20679
          have q20681 := mm_ltL (h := 27) (mm_nle c14700) q20679 q20680 (by decide)
          have q20682 := mm_leL (mm_le c14697) q20680 q20681
          have q20683 := mm_ltL (h := 26) (mm_nle c14700) q20681 q20682 (by decide)
          have q20684 := mm_leL (mm_le c14697) q20682 q20683
          have q20685 := mm_ltL (h := 25) (mm_nle c14700) q20683 q20684 (by decide)
          have q20686 := mm_leL (mm_le c14697) q20684 q20685
          have q20687 := mm_ltL (h := 24) (mm_nle c14700) q20685 q20686 (by decide)
          have q20688 := mm_leL (mm_le c14697) q20686 q20687
          have q20689 := mm_ltL (h := 23) (mm_nle c14700) q20687 q20688 (by decide)
          have q20690 := mm_leL (mm_le c14697) q20688 q20689
          have q20691 := mm_ltL (h := 22) (mm_nle c14700) q20689 q20690 (by decide)
          have q20692 := mm_leL (mm_le c14697) q20690 q20691
          have q20693 := mm_ltL (h := 21) (mm_nle c14700) q20691 q20692 (by decide)
          have q20694 := mm_leL (mm_le c14697) q20692 q20693
          have q20695 := mm_ltL (h := 20) (mm_nle c14700) q20693 q20694 (by decide)
          have q20696 := mm_leL (mm_le c14697) q20694 q20695
          have q20697 := mm_ltL (h := 19) (mm_nle c14700) q20695 q20696 (by decide)
          have q20698 := mm_leL (mm_le c14697) q20696 q20697
          have q20699 := mm_ltL (h := 18) (mm_nle c14700) q20697 q20698 (by decide)
          have q20700 := mm_leL (mm_le c14697) q20698 q20699
          have q20701 := mm_ltL (h := 17) (mm_nle c14700) q20699 q20700 (by decide)
          have q20702 := mm_leL (mm_le c14697) q20700 q20701
          have q20703 := mm_ltL (h := 16) (mm_nle c14700) q20701 q20702 (by decide)
          have q20704 := mm_leL (mm_le c14697) q20702 q20703
          have q20705 := mm_ltL (h := 15) (mm_nle c14700) q20703 q20704 (by decide)
          have q20706 := mm_leL (mm_le c14697) q20704 q20705
          have q20707 := mm_ltL (h := 14) (mm_nle c14700) q20705 q20706 (by decide)
          have q20708 := mm_leL (mm_le c14697) q20706 q20707
          have q20709 := mm_ltL (h := 13) (mm_nle c14700) q20707 q20708 (by decide)
          have q20710 := mm_leL (mm_le c14697) q20708 q20709
          have q20711 := mm_ltL (h := 12) (mm_nle c14700) q20709 q20710 (by decide)
          have q20712 := mm_leL (mm_le c14697) q20710 q20711
          have q20713 := mm_ltL (h := 11) (mm_nle c14700) q20711 q20712 (by decide)
          have q20714 := mm_leL (mm_le c14697) q20712 q20713
          have q20715 := mm_ltL (h := 10) (mm_nle c14700) q20713 q20714 (by decide)
          have q20716 := mm_leL (mm_le c14697) q20714 q20715
          have q20717 := mm_ltL (h := 9) (mm_nle c14700) q20715 q20716 (by decide)
          have q20718 := mm_leL (mm_le c14697) q20716 q20717
          have q20719 := mm_ltL (h := 8) (mm_nle c14700) q20717 q20718 (by decide)
          have q20720 := mm_leL (mm_le c14697) q20718 q20719
          have q20721 := mm_ltL (h := 7) (mm_nle c14700) q20719 q20720 (by decide)
          have q20722 := mm_leL (mm_le c14697) q20720 q20721
          have q20723 := mm_ltL (h := 6) (mm_nle c14700) q20721 q20722 (by decide)
          have q20724 := mm_leL (mm_le c14697) q20722 q20723
          have q20725 := mm_ltL (h := 5) (mm_nle c14700) q20723 q20724 (by decide)
          have q20726 := mm_leL (mm_le c14697) q20724 q20725
          have q20727 := mm_ltL (h := 4) (mm_nle c14700) q20725 q20726 (by decide)
          have q20728 := mm_leL (mm_le c14697) q20726 q20727
          have q20729 := mm_ltL (h := 3) (mm_nle c14700) q20727 q20728 (by decide)
          have q20730 := mm_leL (mm_le c14697) q20728 q20729
          have q20731 := mm_ltL (h := 2) (mm_nle c14700) q20729 q20730 (by decide)
          have q20732 := mm_leL (mm_le c14697) q20730 q20731
          have q20733 := mm_ltL (h := 1) (mm_nle c14700) q20731 q20732 (by decide)
          have q20734 := mm_leL (mm_le c14697) q20732 q20733
          have q20735 := mm_ltL (h := 0) (mm_nle c14700) q20733 q20734 (by decide)
          exact mm_no q20735 (by decide)
      · have q20736 := mm_ltL (h := 599) (mm_nle c14697) rx5_1_14695 h0 (by decide)
        have q20737 := mm_ltR (lo := 1) (mm_nle c14697) rx5_1_14695 h0 (by decide)
        refine lv_aload_n hx hb dX7_nextToken_16 rfl (lv_at hl 1 rfl) ?_
        refine lv_iload_n hx hb dX7_nextToken_17 rfl (lv_at hl 0 rfl) ?_
        refine mm_finir (va_runV (As := [.int x5_1_14695]) (rest := []) ⟨hx, hb, hml, hown, hts⟩ (K7_X7_partAt l G cy H.size a_0 x5_1_14695 a_1 a_2 i_0 f_0 a_3 i_1 i_2 i_3 i_4 i_5 i_6 (mm_wk q20737 (by decide)) h1) (cwV 1 hts (mm_gV mm_w234 mm_w235 mm_w236 mm_w19 mm_w237) rfl rfl rfl hd_X7_partAt ⟨by rw [hRf]; exact Nat.le_of_ble_eq_true rfl, by rw [hRl]; exact Nat.le_of_ble_eq_true rfl⟩) (mm_preV hK hZ hS hA hP hD [0, 1, 2] rfl rfl 2 rfl rfl rfl) rfl rfl hl.1 rfl (lv_room (Nat.le_of_ble_eq_true rfl)) dX7_nextToken_18 ⟨by rw [hRc]; exact Nat.le_of_ble_eq_true rfl, by rw [hRs]; exact Nat.le_of_ble_eq_true rfl⟩) hP hD hS hA [0, 1, 2] rfl (fun _ => rfl) ?_
        clear hP hD hS
        clear H locs
        intro v20738 _u H locs hw hP hD hS
        have w20739 := hw
        refine lv_iconst (v := 1) hx hb dX7_nextToken_21 (by decide) ?_
        refine lv_icmp_ne (tgt := 31) hx hb dX7_nextToken_22 (by decide) (fun c20740 => ?_) (fun c20740 => ?_)
        · refine lv_aload_n hx hb dX7_nextToken_31 rfl (lv_at hl 1 rfl) ?_
          refine lv_aload_n hx hb dX7_nextToken_32 rfl (lv_at hl 1 rfl) ?_
          refine lv_iload_n hx hb dX7_nextToken_33 rfl (lv_at hl 0 rfl) ?_
          refine mm_finir (va_runV (As := [.int x5_1_14695]) (rest := [.ref a_0]) ⟨hx, hb, hml, hown, hts⟩ (K7_X7_partAt l G cy H.size a_0 x5_1_14695 a_1 a_2 i_0 f_0 a_3 i_1 i_2 i_3 i_4 i_5 i_6 (mm_wk q20737 (by decide)) h1) (cwV 1 hts (mm_gV mm_w234 mm_w235 mm_w236 mm_w19 mm_w237) rfl rfl rfl hd_X7_partAt ⟨by rw [hRf]; exact Nat.le_of_ble_eq_true rfl, by rw [hRl]; exact Nat.le_of_ble_eq_true rfl⟩) (mm_preV hK hZ hS hA hP hD [0, 1, 2] rfl rfl 2 rfl rfl rfl) rfl rfl hl.1 rfl (lv_room (Nat.le_of_ble_eq_true rfl)) dX7_nextToken_34 ⟨by rw [hRc]; exact Nat.le_of_ble_eq_true rfl, by rw [hRs]; exact Nat.le_of_ble_eq_true rfl⟩) hP hD hS hA [0, 1, 2] rfl (fun _ => rfl) ?_
          clear hP hD hS
          clear H locs
          intro v20741 _u H locs hw hP hD hS
          have w20742 := hw
          refine va_put (D := G) (ci := 7) (v := .int v20741) (ty := tyX7 4) (C := RX7) (T := TX7) (N := 8) hx hb hts (mm_i inlX7) tyX7 tyX7_ok nmX7 hown hK.1 hP hD hS 2 rfl rfl 4 (by decide) (mm_h hts mm_w207) (fun _ h9 => h9) rfl (tyX7_ok 4 (by decide)) rfl rfl (Nat.le_of_ble_eq_true rfl) dX7_nextToken_37 ?_
          clear hP hD hS
          clear H locs
          intro H locs (hP : va_P G vwCl [(a_1, .inr (9, [.ref a_2, .int i_0])), (a_2, .inl (cy 0, 600, .inl f_0)), (a_0, .inr (7, [.ref a_1, .ref a_3, .int i_1, .int i_2, .int v20741, .int i_4, .int i_5, .int i_6]))] H) (hD : va_D A [(a_1, .inr (9, [.ref a_2, .int i_0])), (a_2, .inl (cy 0, 600, .inl f_0)), (a_0, .inr (7, [.ref a_1, .ref a_3, .int i_1, .int i_2, .int v20741, .int i_4, .int i_5, .int i_6]))]) hS
          refine lv_iload_n hx hb dX7_nextToken_40 rfl (lv_at hl 0 rfl) ?_
          refine lv_aload_n hx hb dX7_nextToken_41 rfl (lv_at hl 1 rfl) ?_
          refine va_get (D := G) (ci := 7) (v := .ref a_1) (C := RX7) (T := TX7) (N := 8) hx hb hts (mm_i inlX7) hown hK.1 hP 2 rfl rfl 0 (by decide) (mm_h hts mm_w67) (fun _ h9 => h9) rfl dX7_nextToken_42 ?_
          refine va_get (D := G) (ci := 9) (v := .int i_0) (C := RX9) (T := TX9) (N := 2) hx hb hts (mm_i inlX9) hown hK.1 hP 0 rfl rfl 1 (by decide) (mm_h hts mm_w231) (fun _ h9 => h9) rfl dX7_nextToken_45 ?_
          refine lv_icmp_ge (tgt := 57) hx hb dX7_nextToken_48 (by decide) (fun c20743 => ?_) (fun c20743 => ?_)
          · have q20744 := mm_leL (mm_le c20743) q20737 q20736
            have q20745 := mm_leR (mm_le c20743) q20737 q20736
            have q20746 := mm_ltL (h := 598) (mm_nle c14697) q20745 q20744 (by decide)
            have q20747 := mm_ltR (lo := 2) (mm_nle c14697) q20746 q20744 (by decide)
            have q20748 := mm_leL (mm_le c20743) q20747 q20746
            have q20749 := mm_ltL (h := 597) (mm_nle c14697) q20746 q20748 (by decide)
            have q20750 := mm_leL (mm_le c20743) q20748 q20749
            have q20751 := mm_ltL (h := 596) (mm_nle c14697) q20749 q20750 (by decide)
            have q20752 := mm_leL (mm_le c20743) q20750 q20751
            have q20753 := mm_ltL (h := 595) (mm_nle c14697) q20751 q20752 (by decide)
            have q20754 := mm_leL (mm_le c20743) q20752 q20753
            have q20755 := mm_ltL (h := 594) (mm_nle c14697) q20753 q20754 (by decide)
            have q20756 := mm_leL (mm_le c20743) q20754 q20755
            have q20757 := mm_ltL (h := 593) (mm_nle c14697) q20755 q20756 (by decide)
            have q20758 := mm_leL (mm_le c20743) q20756 q20757
            have q20759 := mm_ltL (h := 592) (mm_nle c14697) q20757 q20758 (by decide)
            have q20760 := mm_leL (mm_le c20743) q20758 q20759
            have q20761 := mm_ltL (h := 591) (mm_nle c14697) q20759 q20760 (by decide)
            have q20762 := mm_leL (mm_le c20743) q20760 q20761
            have q20763 := mm_ltL (h := 590) (mm_nle c14697) q20761 q20762 (by decide)
            have q20764 := mm_leL (mm_le c20743) q20762 q20763
            have q20765 := mm_ltL (h := 589) (mm_nle c14697) q20763 q20764 (by decide)
            have q20766 := mm_leL (mm_le c20743) q20764 q20765
            have q20767 := mm_ltL (h := 588) (mm_nle c14697) q20765 q20766 (by decide)
            have q20768 := mm_leL (mm_le c20743) q20766 q20767
            have q20769 := mm_ltL (h := 587) (mm_nle c14697) q20767 q20768 (by decide)
            have q20770 := mm_leL (mm_le c20743) q20768 q20769
            have q20771 := mm_ltL (h := 586) (mm_nle c14697) q20769 q20770 (by decide)
            have q20772 := mm_leL (mm_le c20743) q20770 q20771
            have q20773 := mm_ltL (h := 585) (mm_nle c14697) q20771 q20772 (by decide)
            have q20774 := mm_leL (mm_le c20743) q20772 q20773
            have q20775 := mm_ltL (h := 584) (mm_nle c14697) q20773 q20774 (by decide)
            have q20776 := mm_leL (mm_le c20743) q20774 q20775
            have q20777 := mm_ltL (h := 583) (mm_nle c14697) q20775 q20776 (by decide)
            have q20778 := mm_leL (mm_le c20743) q20776 q20777
            have q20779 := mm_ltL (h := 582) (mm_nle c14697) q20777 q20778 (by decide)
            have q20780 := mm_leL (mm_le c20743) q20778 q20779
            have q20781 := mm_ltL (h := 581) (mm_nle c14697) q20779 q20780 (by decide)
            have q20782 := mm_leL (mm_le c20743) q20780 q20781
            have q20783 := mm_ltL (h := 580) (mm_nle c14697) q20781 q20782 (by decide)
            have q20784 := mm_leL (mm_le c20743) q20782 q20783
            have q20785 := mm_ltL (h := 579) (mm_nle c14697) q20783 q20784 (by decide)
            have q20786 := mm_leL (mm_le c20743) q20784 q20785
            have q20787 := mm_ltL (h := 578) (mm_nle c14697) q20785 q20786 (by decide)
            have q20788 := mm_leL (mm_le c20743) q20786 q20787
            have q20789 := mm_ltL (h := 577) (mm_nle c14697) q20787 q20788 (by decide)
            have q20790 := mm_leL (mm_le c20743) q20788 q20789
            have q20791 := mm_ltL (h := 576) (mm_nle c14697) q20789 q20790 (by decide)
            have q20792 := mm_leL (mm_le c20743) q20790 q20791
            have q20793 := mm_ltL (h := 575) (mm_nle c14697) q20791 q20792 (by decide)
            have q20794 := mm_leL (mm_le c20743) q20792 q20793
            have q20795 := mm_ltL (h := 574) (mm_nle c14697) q20793 q20794 (by decide)
            have q20796 := mm_leL (mm_le c20743) q20794 q20795
            have q20797 := mm_ltL (h := 573) (mm_nle c14697) q20795 q20796 (by decide)
            have q20798 := mm_leL (mm_le c20743) q20796 q20797
            have q20799 := mm_ltL (h := 572) (mm_nle c14697) q20797 q20798 (by decide)
            have q20800 := mm_leL (mm_le c20743) q20798 q20799
            have q20801 := mm_ltL (h := 571) (mm_nle c14697) q20799 q20800 (by decide)
            have q20802 := mm_leL (mm_le c20743) q20800 q20801
            have q20803 := mm_ltL (h := 570) (mm_nle c14697) q20801 q20802 (by decide)
            have q20804 := mm_leL (mm_le c20743) q20802 q20803
            have q20805 := mm_ltL (h := 569) (mm_nle c14697) q20803 q20804 (by decide)
            have q20806 := mm_leL (mm_le c20743) q20804 q20805
            have q20807 := mm_ltL (h := 568) (mm_nle c14697) q20805 q20806 (by decide)
            have q20808 := mm_leL (mm_le c20743) q20806 q20807
            have q20809 := mm_ltL (h := 567) (mm_nle c14697) q20807 q20808 (by decide)
            have q20810 := mm_leL (mm_le c20743) q20808 q20809
            have q20811 := mm_ltL (h := 566) (mm_nle c14697) q20809 q20810 (by decide)
            have q20812 := mm_leL (mm_le c20743) q20810 q20811
            have q20813 := mm_ltL (h := 565) (mm_nle c14697) q20811 q20812 (by decide)
            have q20814 := mm_leL (mm_le c20743) q20812 q20813
            have q20815 := mm_ltL (h := 564) (mm_nle c14697) q20813 q20814 (by decide)
            have q20816 := mm_leL (mm_le c20743) q20814 q20815
            have q20817 := mm_ltL (h := 563) (mm_nle c14697) q20815 q20816 (by decide)
            have q20818 := mm_leL (mm_le c20743) q20816 q20817
            have q20819 := mm_ltL (h := 562) (mm_nle c14697) q20817 q20818 (by decide)
            have q20820 := mm_leL (mm_le c20743) q20818 q20819
            have q20821 := mm_ltL (h := 561) (mm_nle c14697) q20819 q20820 (by decide)
            have q20822 := mm_leL (mm_le c20743) q20820 q20821
            have q20823 := mm_ltL (h := 560) (mm_nle c14697) q20821 q20822 (by decide)
            have q20824 := mm_leL (mm_le c20743) q20822 q20823
            have q20825 := mm_ltL (h := 559) (mm_nle c14697) q20823 q20824 (by decide)
            have q20826 := mm_leL (mm_le c20743) q20824 q20825
            have q20827 := mm_ltL (h := 558) (mm_nle c14697) q20825 q20826 (by decide)
            have q20828 := mm_leL (mm_le c20743) q20826 q20827
            have q20829 := mm_ltL (h := 557) (mm_nle c14697) q20827 q20828 (by decide)
            have q20830 := mm_leL (mm_le c20743) q20828 q20829
            have q20831 := mm_ltL (h := 556) (mm_nle c14697) q20829 q20830 (by decide)
            have q20832 := mm_leL (mm_le c20743) q20830 q20831
            have q20833 := mm_ltL (h := 555) (mm_nle c14697) q20831 q20832 (by decide)
            have q20834 := mm_leL (mm_le c20743) q20832 q20833
            have q20835 := mm_ltL (h := 554) (mm_nle c14697) q20833 q20834 (by decide)
            have q20836 := mm_leL (mm_le c20743) q20834 q20835
            have q20837 := mm_ltL (h := 553) (mm_nle c14697) q20835 q20836 (by decide)
            have q20838 := mm_leL (mm_le c20743) q20836 q20837
            have q20839 := mm_ltL (h := 552) (mm_nle c14697) q20837 q20838 (by decide)
            have q20840 := mm_leL (mm_le c20743) q20838 q20839
            have q20841 := mm_ltL (h := 551) (mm_nle c14697) q20839 q20840 (by decide)
            have q20842 := mm_leL (mm_le c20743) q20840 q20841
            have q20843 := mm_ltL (h := 550) (mm_nle c14697) q20841 q20842 (by decide)
            have q20844 := mm_leL (mm_le c20743) q20842 q20843
            have q20845 := mm_ltL (h := 549) (mm_nle c14697) q20843 q20844 (by decide)
            have q20846 := mm_leL (mm_le c20743) q20844 q20845
            have q20847 := mm_ltL (h := 548) (mm_nle c14697) q20845 q20846 (by decide)
            have q20848 := mm_leL (mm_le c20743) q20846 q20847
            have q20849 := mm_ltL (h := 547) (mm_nle c14697) q20847 q20848 (by decide)
            have q20850 := mm_leL (mm_le c20743) q20848 q20849
            have q20851 := mm_ltL (h := 546) (mm_nle c14697) q20849 q20850 (by decide)
            have q20852 := mm_leL (mm_le c20743) q20850 q20851
            have q20853 := mm_ltL (h := 545) (mm_nle c14697) q20851 q20852 (by decide)
            have q20854 := mm_leL (mm_le c20743) q20852 q20853
            have q20855 := mm_ltL (h := 544) (mm_nle c14697) q20853 q20854 (by decide)
            have q20856 := mm_leL (mm_le c20743) q20854 q20855
            have q20857 := mm_ltL (h := 543) (mm_nle c14697) q20855 q20856 (by decide)
            have q20858 := mm_leL (mm_le c20743) q20856 q20857
            have q20859 := mm_ltL (h := 542) (mm_nle c14697) q20857 q20858 (by decide)
            have q20860 := mm_leL (mm_le c20743) q20858 q20859
            have q20861 := mm_ltL (h := 541) (mm_nle c14697) q20859 q20860 (by decide)
            have q20862 := mm_leL (mm_le c20743) q20860 q20861
            have q20863 := mm_ltL (h := 540) (mm_nle c14697) q20861 q20862 (by decide)
            have q20864 := mm_leL (mm_le c20743) q20862 q20863
            have q20865 := mm_ltL (h := 539) (mm_nle c14697) q20863 q20864 (by decide)
            have q20866 := mm_leL (mm_le c20743) q20864 q20865
            have q20867 := mm_ltL (h := 538) (mm_nle c14697) q20865 q20866 (by decide)
            have q20868 := mm_leL (mm_le c20743) q20866 q20867
            have q20869 := mm_ltL (h := 537) (mm_nle c14697) q20867 q20868 (by decide)
            have q20870 := mm_leL (mm_le c20743) q20868 q20869
            have q20871 := mm_ltL (h := 536) (mm_nle c14697) q20869 q20870 (by decide)
            have q20872 := mm_leL (mm_le c20743) q20870 q20871
            have q20873 := mm_ltL (h := 535) (mm_nle c14697) q20871 q20872 (by decide)
            have q20874 := mm_leL (mm_le c20743) q20872 q20873
            have q20875 := mm_ltL (h := 534) (mm_nle c14697) q20873 q20874 (by decide)
            have q20876 := mm_leL (mm_le c20743) q20874 q20875
            have q20877 := mm_ltL (h := 533) (mm_nle c14697) q20875 q20876 (by decide)
            have q20878 := mm_leL (mm_le c20743) q20876 q20877
            have q20879 := mm_ltL (h := 532) (mm_nle c14697) q20877 q20878 (by decide)
            have q20880 := mm_leL (mm_le c20743) q20878 q20879
            have q20881 := mm_ltL (h := 531) (mm_nle c14697) q20879 q20880 (by decide)
            have q20882 := mm_leL (mm_le c20743) q20880 q20881
            have q20883 := mm_ltL (h := 530) (mm_nle c14697) q20881 q20882 (by decide)
            have q20884 := mm_leL (mm_le c20743) q20882 q20883
            have q20885 := mm_ltL (h := 529) (mm_nle c14697) q20883 q20884 (by decide)
            have q20886 := mm_leL (mm_le c20743) q20884 q20885
            have q20887 := mm_ltL (h := 528) (mm_nle c14697) q20885 q20886 (by decide)
            have q20888 := mm_leL (mm_le c20743) q20886 q20887
            have q20889 := mm_ltL (h := 527) (mm_nle c14697) q20887 q20888 (by decide)
            have q20890 := mm_leL (mm_le c20743) q20888 q20889
            have q20891 := mm_ltL (h := 526) (mm_nle c14697) q20889 q20890 (by decide)
            have q20892 := mm_leL (mm_le c20743) q20890 q20891
            have q20893 := mm_ltL (h := 525) (mm_nle c14697) q20891 q20892 (by decide)
            have q20894 := mm_leL (mm_le c20743) q20892 q20893
            have q20895 := mm_ltL (h := 524) (mm_nle c14697) q20893 q20894 (by decide)
            have q20896 := mm_leL (mm_le c20743) q20894 q20895
            have q20897 := mm_ltL (h := 523) (mm_nle c14697) q20895 q20896 (by decide)
            have q20898 := mm_leL (mm_le c20743) q20896 q20897
            have q20899 := mm_ltL (h := 522) (mm_nle c14697) q20897 q20898 (by decide)
            have q20900 := mm_leL (mm_le c20743) q20898 q20899
            have q20901 := mm_ltL (h := 521) (mm_nle c14697) q20899 q20900 (by decide)
            have q20902 := mm_leL (mm_le c20743) q20900 q20901
            have q20903 := mm_ltL (h := 520) (mm_nle c14697) q20901 q20902 (by decide)
            have q20904 := mm_leL (mm_le c20743) q20902 q20903
            have q20905 := mm_ltL (h := 519) (mm_nle c14697) q20903 q20904 (by decide)
            have q20906 := mm_leL (mm_le c20743) q20904 q20905
            have q20907 := mm_ltL (h := 518) (mm_nle c14697) q20905 q20906 (by decide)
            have q20908 := mm_leL (mm_le c20743) q20906 q20907
            have q20909 := mm_ltL (h := 517) (mm_nle c14697) q20907 q20908 (by decide)
            have q20910 := mm_leL (mm_le c20743) q20908 q20909
            have q20911 := mm_ltL (h := 516) (mm_nle c14697) q20909 q20910 (by decide)
            have q20912 := mm_leL (mm_le c20743) q20910 q20911
            have q20913 := mm_ltL (h := 515) (mm_nle c14697) q20911 q20912 (by decide)
            have q20914 := mm_leL (mm_le c20743) q20912 q20913
            have q20915 := mm_ltL (h := 514) (mm_nle c14697) q20913 q20914 (by decide)
            have q20916 := mm_leL (mm_le c20743) q20914 q20915
            have q20917 := mm_ltL (h := 513) (mm_nle c14697) q20915 q20916 (by decide)
            have q20918 := mm_leL (mm_le c20743) q20916 q20917
            have q20919 := mm_ltL (h := 512) (mm_nle c14697) q20917 q20918 (by decide)
            have q20920 := mm_leL (mm_le c20743) q20918 q20919
            have q20921 := mm_ltL (h := 511) (mm_nle c14697) q20919 q20920 (by decide)
            have q20922 := mm_leL (mm_le c20743) q20920 q20921
            have q20923 := mm_ltL (h := 510) (mm_nle c14697) q20921 q20922 (by decide)
            have q20924 := mm_leL (mm_le c20743) q20922 q20923
            have q20925 := mm_ltL (h := 509) (mm_nle c14697) q20923 q20924 (by decide)
            have q20926 := mm_leL (mm_le c20743) q20924 q20925
            have q20927 := mm_ltL (h := 508) (mm_nle c14697) q20925 q20926 (by decide)
            have q20928 := mm_leL (mm_le c20743) q20926 q20927
            have q20929 := mm_ltL (h := 507) (mm_nle c14697) q20927 q20928 (by decide)
            have q20930 := mm_leL (mm_le c20743) q20928 q20929
            have q20931 := mm_ltL (h := 506) (mm_nle c14697) q20929 q20930 (by decide)
            have q20932 := mm_leL (mm_le c20743) q20930 q20931
            have q20933 := mm_ltL (h := 505) (mm_nle c14697) q20931 q20932 (by decide)
            have q20934 := mm_leL (mm_le c20743) q20932 q20933
            have q20935 := mm_ltL (h := 504) (mm_nle c14697) q20933 q20934 (by decide)
            have q20936 := mm_leL (mm_le c20743) q20934 q20935
            have q20937 := mm_ltL (h := 503) (mm_nle c14697) q20935 q20936 (by decide)
            have q20938 := mm_leL (mm_le c20743) q20936 q20937
            have q20939 := mm_ltL (h := 502) (mm_nle c14697) q20937 q20938 (by decide)
            have q20940 := mm_leL (mm_le c20743) q20938 q20939
            have q20941 := mm_ltL (h := 501) (mm_nle c14697) q20939 q20940 (by decide)
            have q20942 := mm_leL (mm_le c20743) q20940 q20941
            have q20943 := mm_ltL (h := 500) (mm_nle c14697) q20941 q20942 (by decide)
            have q20944 := mm_leL (mm_le c20743) q20942 q20943
            have q20945 := mm_ltL (h := 499) (mm_nle c14697) q20943 q20944 (by decide)
            have q20946 := mm_leL (mm_le c20743) q20944 q20945
            have q20947 := mm_ltL (h := 498) (mm_nle c14697) q20945 q20946 (by decide)
            have q20948 := mm_leL (mm_le c20743) q20946 q20947
            have q20949 := mm_ltL (h := 497) (mm_nle c14697) q20947 q20948 (by decide)
            have q20950 := mm_leL (mm_le c20743) q20948 q20949
            have q20951 := mm_ltL (h := 496) (mm_nle c14697) q20949 q20950 (by decide)
            have q20952 := mm_leL (mm_le c20743) q20950 q20951
            have q20953 := mm_ltL (h := 495) (mm_nle c14697) q20951 q20952 (by decide)
            have q20954 := mm_leL (mm_le c20743) q20952 q20953
            have q20955 := mm_ltL (h := 494) (mm_nle c14697) q20953 q20954 (by decide)
            have q20956 := mm_leL (mm_le c20743) q20954 q20955
            have q20957 := mm_ltL (h := 493) (mm_nle c14697) q20955 q20956 (by decide)
            have q20958 := mm_leL (mm_le c20743) q20956 q20957
            have q20959 := mm_ltL (h := 492) (mm_nle c14697) q20957 q20958 (by decide)
            have q20960 := mm_leL (mm_le c20743) q20958 q20959
            have q20961 := mm_ltL (h := 491) (mm_nle c14697) q20959 q20960 (by decide)
            have q20962 := mm_leL (mm_le c20743) q20960 q20961
            have q20963 := mm_ltL (h := 490) (mm_nle c14697) q20961 q20962 (by decide)
            have q20964 := mm_leL (mm_le c20743) q20962 q20963
            have q20965 := mm_ltL (h := 489) (mm_nle c14697) q20963 q20964 (by decide)
            have q20966 := mm_leL (mm_le c20743) q20964 q20965
            have q20967 := mm_ltL (h := 488) (mm_nle c14697) q20965 q20966 (by decide)
            have q20968 := mm_leL (mm_le c20743) q20966 q20967
            have q20969 := mm_ltL (h := 487) (mm_nle c14697) q20967 q20968 (by decide)
            have q20970 := mm_leL (mm_le c20743) q20968 q20969
            have q20971 := mm_ltL (h := 486) (mm_nle c14697) q20969 q20970 (by decide)
            have q20972 := mm_leL (mm_le c20743) q20970 q20971
            have q20973 := mm_ltL (h := 485) (mm_nle c14697) q20971 q20972 (by decide)
            have q20974 := mm_leL (mm_le c20743) q20972 q20973
            have q20975 := mm_ltL (h := 484) (mm_nle c14697) q20973 q20974 (by decide)
            have q20976 := mm_leL (mm_le c20743) q20974 q20975
            have q20977 := mm_ltL (h := 483) (mm_nle c14697) q20975 q20976 (by decide)
            have q20978 := mm_leL (mm_le c20743) q20976 q20977
            have q20979 := mm_ltL (h := 482) (mm_nle c14697) q20977 q20978 (by decide)
            have q20980 := mm_leL (mm_le c20743) q20978 q20979
            have q20981 := mm_ltL (h := 481) (mm_nle c14697) q20979 q20980 (by decide)
            have q20982 := mm_leL (mm_le c20743) q20980 q20981
            have q20983 := mm_ltL (h := 480) (mm_nle c14697) q20981 q20982 (by decide)
            have q20984 := mm_leL (mm_le c20743) q20982 q20983
            have q20985 := mm_ltL (h := 479) (mm_nle c14697) q20983 q20984 (by decide)
            have q20986 := mm_leL (mm_le c20743) q20984 q20985
            have q20987 := mm_ltL (h := 478) (mm_nle c14697) q20985 q20986 (by decide)
            have q20988 := mm_leL (mm_le c20743) q20986 q20987
            have q20989 := mm_ltL (h := 477) (mm_nle c14697) q20987 q20988 (by decide)
            have q20990 := mm_leL (mm_le c20743) q20988 q20989
            have q20991 := mm_ltL (h := 476) (mm_nle c14697) q20989 q20990 (by decide)
            have q20992 := mm_leL (mm_le c20743) q20990 q20991
            have q20993 := mm_ltL (h := 475) (mm_nle c14697) q20991 q20992 (by decide)
            have q20994 := mm_leL (mm_le c20743) q20992 q20993
            have q20995 := mm_ltL (h := 474) (mm_nle c14697) q20993 q20994 (by decide)
            have q20996 := mm_leL (mm_le c20743) q20994 q20995
            have q20997 := mm_ltL (h := 473) (mm_nle c14697) q20995 q20996 (by decide)
            have q20998 := mm_leL (mm_le c20743) q20996 q20997
            have q20999 := mm_ltL (h := 472) (mm_nle c14697) q20997 q20998 (by decide)
            have q21000 := mm_leL (mm_le c20743) q20998 q20999
            have q21001 := mm_ltL (h := 471) (mm_nle c14697) q20999 q21000 (by decide)
            have q21002 := mm_leL (mm_le c20743) q21000 q21001
            have q21003 := mm_ltL (h := 470) (mm_nle c14697) q21001 q21002 (by decide)
            have q21004 := mm_leL (mm_le c20743) q21002 q21003
            have q21005 := mm_ltL (h := 469) (mm_nle c14697) q21003 q21004 (by decide)
            have q21006 := mm_leL (mm_le c20743) q21004 q21005
            have q21007 := mm_ltL (h := 468) (mm_nle c14697) q21005 q21006 (by decide)
            have q21008 := mm_leL (mm_le c20743) q21006 q21007
            have q21009 := mm_ltL (h := 467) (mm_nle c14697) q21007 q21008 (by decide)
            have q21010 := mm_leL (mm_le c20743) q21008 q21009
            have q21011 := mm_ltL (h := 466) (mm_nle c14697) q21009 q21010 (by decide)
            have q21012 := mm_leL (mm_le c20743) q21010 q21011
            have q21013 := mm_ltL (h := 465) (mm_nle c14697) q21011 q21012 (by decide)
            have q21014 := mm_leL (mm_le c20743) q21012 q21013
            have q21015 := mm_ltL (h := 464) (mm_nle c14697) q21013 q21014 (by decide)
            have q21016 := mm_leL (mm_le c20743) q21014 q21015
            have q21017 := mm_ltL (h := 463) (mm_nle c14697) q21015 q21016 (by decide)
            have q21018 := mm_leL (mm_le c20743) q21016 q21017
            have q21019 := mm_ltL (h := 462) (mm_nle c14697) q21017 q21018 (by decide)
            have q21020 := mm_leL (mm_le c20743) q21018 q21019
            have q21021 := mm_ltL (h := 461) (mm_nle c14697) q21019 q21020 (by decide)
            have q21022 := mm_leL (mm_le c20743) q21020 q21021
            have q21023 := mm_ltL (h := 460) (mm_nle c14697) q21021 q21022 (by decide)
            have q21024 := mm_leL (mm_le c20743) q21022 q21023
            have q21025 := mm_ltL (h := 459) (mm_nle c14697) q21023 q21024 (by decide)
            have q21026 := mm_leL (mm_le c20743) q21024 q21025
            have q21027 := mm_ltL (h := 458) (mm_nle c14697) q21025 q21026 (by decide)
            have q21028 := mm_leL (mm_le c20743) q21026 q21027
            have q21029 := mm_ltL (h := 457) (mm_nle c14697) q21027 q21028 (by decide)
            have q21030 := mm_leL (mm_le c20743) q21028 q21029
            have q21031 := mm_ltL (h := 456) (mm_nle c14697) q21029 q21030 (by decide)
            have q21032 := mm_leL (mm_le c20743) q21030 q21031
            have q21033 := mm_ltL (h := 455) (mm_nle c14697) q21031 q21032 (by decide)
            have q21034 := mm_leL (mm_le c20743) q21032 q21033
            have q21035 := mm_ltL (h := 454) (mm_nle c14697) q21033 q21034 (by decide)
            have q21036 := mm_leL (mm_le c20743) q21034 q21035
            have q21037 := mm_ltL (h := 453) (mm_nle c14697) q21035 q21036 (by decide)
            have q21038 := mm_leL (mm_le c20743) q21036 q21037
            have q21039 := mm_ltL (h := 452) (mm_nle c14697) q21037 q21038 (by decide)
            have q21040 := mm_leL (mm_le c20743) q21038 q21039
            have q21041 := mm_ltL (h := 451) (mm_nle c14697) q21039 q21040 (by decide)
            have q21042 := mm_leL (mm_le c20743) q21040 q21041
            have q21043 := mm_ltL (h := 450) (mm_nle c14697) q21041 q21042 (by decide)
            have q21044 := mm_leL (mm_le c20743) q21042 q21043
            have q21045 := mm_ltL (h := 449) (mm_nle c14697) q21043 q21044 (by decide)
            have q21046 := mm_leL (mm_le c20743) q21044 q21045
            have q21047 := mm_ltL (h := 448) (mm_nle c14697) q21045 q21046 (by decide)
            have q21048 := mm_leL (mm_le c20743) q21046 q21047
            have q21049 := mm_ltL (h := 447) (mm_nle c14697) q21047 q21048 (by decide)
            have q21050 := mm_leL (mm_le c20743) q21048 q21049
            have q21051 := mm_ltL (h := 446) (mm_nle c14697) q21049 q21050 (by decide)
            have q21052 := mm_leL (mm_le c20743) q21050 q21051
            have q21053 := mm_ltL (h := 445) (mm_nle c14697) q21051 q21052 (by decide)
            have q21054 := mm_leL (mm_le c20743) q21052 q21053
            have q21055 := mm_ltL (h := 444) (mm_nle c14697) q21053 q21054 (by decide)
            have q21056 := mm_leL (mm_le c20743) q21054 q21055
            have q21057 := mm_ltL (h := 443) (mm_nle c14697) q21055 q21056 (by decide)
            have q21058 := mm_leL (mm_le c20743) q21056 q21057
            have q21059 := mm_ltL (h := 442) (mm_nle c14697) q21057 q21058 (by decide)
            have q21060 := mm_leL (mm_le c20743) q21058 q21059
            have q21061 := mm_ltL (h := 441) (mm_nle c14697) q21059 q21060 (by decide)
            have q21062 := mm_leL (mm_le c20743) q21060 q21061
            have q21063 := mm_ltL (h := 440) (mm_nle c14697) q21061 q21062 (by decide)
            have q21064 := mm_leL (mm_le c20743) q21062 q21063
            have q21065 := mm_ltL (h := 439) (mm_nle c14697) q21063 q21064 (by decide)
            have q21066 := mm_leL (mm_le c20743) q21064 q21065
            have q21067 := mm_ltL (h := 438) (mm_nle c14697) q21065 q21066 (by decide)
            have q21068 := mm_leL (mm_le c20743) q21066 q21067
            have q21069 := mm_ltL (h := 437) (mm_nle c14697) q21067 q21068 (by decide)
            have q21070 := mm_leL (mm_le c20743) q21068 q21069
            have q21071 := mm_ltL (h := 436) (mm_nle c14697) q21069 q21070 (by decide)
            have q21072 := mm_leL (mm_le c20743) q21070 q21071
            have q21073 := mm_ltL (h := 435) (mm_nle c14697) q21071 q21072 (by decide)
            have q21074 := mm_leL (mm_le c20743) q21072 q21073
            have q21075 := mm_ltL (h := 434) (mm_nle c14697) q21073 q21074 (by decide)
            have q21076 := mm_leL (mm_le c20743) q21074 q21075
            have q21077 := mm_ltL (h := 433) (mm_nle c14697) q21075 q21076 (by decide)
            have q21078 := mm_leL (mm_le c20743) q21076 q21077
            have q21079 := mm_ltL (h := 432) (mm_nle c14697) q21077 q21078 (by decide)
            have q21080 := mm_leL (mm_le c20743) q21078 q21079
            have q21081 := mm_ltL (h := 431) (mm_nle c14697) q21079 q21080 (by decide)
            have q21082 := mm_leL (mm_le c20743) q21080 q21081
            have q21083 := mm_ltL (h := 430) (mm_nle c14697) q21081 q21082 (by decide)
            have q21084 := mm_leL (mm_le c20743) q21082 q21083
            have q21085 := mm_ltL (h := 429) (mm_nle c14697) q21083 q21084 (by decide)
            have q21086 := mm_leL (mm_le c20743) q21084 q21085
            have q21087 := mm_ltL (h := 428) (mm_nle c14697) q21085 q21086 (by decide)
            have q21088 := mm_leL (mm_le c20743) q21086 q21087
            have q21089 := mm_ltL (h := 427) (mm_nle c14697) q21087 q21088 (by decide)
            have q21090 := mm_leL (mm_le c20743) q21088 q21089
            have q21091 := mm_ltL (h := 426) (mm_nle c14697) q21089 q21090 (by decide)
            have q21092 := mm_leL (mm_le c20743) q21090 q21091
            have q21093 := mm_ltL (h := 425) (mm_nle c14697) q21091 q21092 (by decide)
            have q21094 := mm_leL (mm_le c20743) q21092 q21093
            have q21095 := mm_ltL (h := 424) (mm_nle c14697) q21093 q21094 (by decide)
            have q21096 := mm_leL (mm_le c20743) q21094 q21095
            have q21097 := mm_ltL (h := 423) (mm_nle c14697) q21095 q21096 (by decide)
            have q21098 := mm_leL (mm_le c20743) q21096 q21097
            have q21099 := mm_ltL (h := 422) (mm_nle c14697) q21097 q21098 (by decide)
            have q21100 := mm_leL (mm_le c20743) q21098 q21099
            have q21101 := mm_ltL (h := 421) (mm_nle c14697) q21099 q21100 (by decide)
            have q21102 := mm_leL (mm_le c20743) q21100 q21101
            have q21103 := mm_ltL (h := 420) (mm_nle c14697) q21101 q21102 (by decide)
            have q21104 := mm_leL (mm_le c20743) q21102 q21103
            have q21105 := mm_ltL (h := 419) (mm_nle c14697) q21103 q21104 (by decide)
            have q21106 := mm_leL (mm_le c20743) q21104 q21105
            have q21107 := mm_ltL (h := 418) (mm_nle c14697) q21105 q21106 (by decide)
            have q21108 := mm_leL (mm_le c20743) q21106 q21107
            have q21109 := mm_ltL (h := 417) (mm_nle c14697) q21107 q21108 (by decide)
            have q21110 := mm_leL (mm_le c20743) q21108 q21109
            have q21111 := mm_ltL (h := 416) (mm_nle c14697) q21109 q21110 (by decide)
            have q21112 := mm_leL (mm_le c20743) q21110 q21111
            have q21113 := mm_ltL (h := 415) (mm_nle c14697) q21111 q21112 (by decide)
            have q21114 := mm_leL (mm_le c20743) q21112 q21113
            have q21115 := mm_ltL (h := 414) (mm_nle c14697) q21113 q21114 (by decide)
            have q21116 := mm_leL (mm_le c20743) q21114 q21115
            have q21117 := mm_ltL (h := 413) (mm_nle c14697) q21115 q21116 (by decide)
            have q21118 := mm_leL (mm_le c20743) q21116 q21117
            have q21119 := mm_ltL (h := 412) (mm_nle c14697) q21117 q21118 (by decide)
            have q21120 := mm_leL (mm_le c20743) q21118 q21119
            have q21121 := mm_ltL (h := 411) (mm_nle c14697) q21119 q21120 (by decide)
            have q21122 := mm_leL (mm_le c20743) q21120 q21121
            have q21123 := mm_ltL (h := 410) (mm_nle c14697) q21121 q21122 (by decide)
            have q21124 := mm_leL (mm_le c20743) q21122 q21123
            have q21125 := mm_ltL (h := 409) (mm_nle c14697) q21123 q21124 (by decide)
            have q21126 := mm_leL (mm_le c20743) q21124 q21125
            have q21127 := mm_ltL (h := 408) (mm_nle c14697) q21125 q21126 (by decide)
            have q21128 := mm_leL (mm_le c20743) q21126 q21127
            have q21129 := mm_ltL (h := 407) (mm_nle c14697) q21127 q21128 (by decide)
            have q21130 := mm_leL (mm_le c20743) q21128 q21129
            have q21131 := mm_ltL (h := 406) (mm_nle c14697) q21129 q21130 (by decide)
            have q21132 := mm_leL (mm_le c20743) q21130 q21131
            have q21133 := mm_ltL (h := 405) (mm_nle c14697) q21131 q21132 (by decide)
            have q21134 := mm_leL (mm_le c20743) q21132 q21133
            have q21135 := mm_ltL (h := 404) (mm_nle c14697) q21133 q21134 (by decide)
            have q21136 := mm_leL (mm_le c20743) q21134 q21135
            have q21137 := mm_ltL (h := 403) (mm_nle c14697) q21135 q21136 (by decide)
            have q21138 := mm_leL (mm_le c20743) q21136 q21137
            have q21139 := mm_ltL (h := 402) (mm_nle c14697) q21137 q21138 (by decide)
            have q21140 := mm_leL (mm_le c20743) q21138 q21139
            have q21141 := mm_ltL (h := 401) (mm_nle c14697) q21139 q21140 (by decide)
            have q21142 := mm_leL (mm_le c20743) q21140 q21141
            have q21143 := mm_ltL (h := 400) (mm_nle c14697) q21141 q21142 (by decide)
            have q21144 := mm_leL (mm_le c20743) q21142 q21143
            have q21145 := mm_ltL (h := 399) (mm_nle c14697) q21143 q21144 (by decide)
            have q21146 := mm_leL (mm_le c20743) q21144 q21145
            have q21147 := mm_ltL (h := 398) (mm_nle c14697) q21145 q21146 (by decide)
            have q21148 := mm_leL (mm_le c20743) q21146 q21147
            have q21149 := mm_ltL (h := 397) (mm_nle c14697) q21147 q21148 (by decide)
            have q21150 := mm_leL (mm_le c20743) q21148 q21149
            have q21151 := mm_ltL (h := 396) (mm_nle c14697) q21149 q21150 (by decide)
            have q21152 := mm_leL (mm_le c20743) q21150 q21151
            have q21153 := mm_ltL (h := 395) (mm_nle c14697) q21151 q21152 (by decide)
            have q21154 := mm_leL (mm_le c20743) q21152 q21153
            have q21155 := mm_ltL (h := 394) (mm_nle c14697) q21153 q21154 (by decide)
            have q21156 := mm_leL (mm_le c20743) q21154 q21155
            have q21157 := mm_ltL (h := 393) (mm_nle c14697) q21155 q21156 (by decide)
            have q21158 := mm_leL (mm_le c20743) q21156 q21157
            have q21159 := mm_ltL (h := 392) (mm_nle c14697) q21157 q21158 (by decide)
            have q21160 := mm_leL (mm_le c20743) q21158 q21159
            have q21161 := mm_ltL (h := 391) (mm_nle c14697) q21159 q21160 (by decide)
            have q21162 := mm_leL (mm_le c20743) q21160 q21161
            have q21163 := mm_ltL (h := 390) (mm_nle c14697) q21161 q21162 (by decide)
            have q21164 := mm_leL (mm_le c20743) q21162 q21163
            have q21165 := mm_ltL (h := 389) (mm_nle c14697) q21163 q21164 (by decide)
            have q21166 := mm_leL (mm_le c20743) q21164 q21165
            have q21167 := mm_ltL (h := 388) (mm_nle c14697) q21165 q21166 (by decide)
            have q21168 := mm_leL (mm_le c20743) q21166 q21167
            have q21169 := mm_ltL (h := 387) (mm_nle c14697) q21167 q21168 (by decide)
            have q21170 := mm_leL (mm_le c20743) q21168 q21169
            have q21171 := mm_ltL (h := 386) (mm_nle c14697) q21169 q21170 (by decide)
            have q21172 := mm_leL (mm_le c20743) q21170 q21171
            have q21173 := mm_ltL (h := 385) (mm_nle c14697) q21171 q21172 (by decide)
            have q21174 := mm_leL (mm_le c20743) q21172 q21173
            have q21175 := mm_ltL (h := 384) (mm_nle c14697) q21173 q21174 (by decide)
            have q21176 := mm_leL (mm_le c20743) q21174 q21175
            have q21177 := mm_ltL (h := 383) (mm_nle c14697) q21175 q21176 (by decide)
            have q21178 := mm_leL (mm_le c20743) q21176 q21177
            have q21179 := mm_ltL (h := 382) (mm_nle c14697) q21177 q21178 (by decide)
            have q21180 := mm_leL (mm_le c20743) q21178 q21179
            have q21181 := mm_ltL (h := 381) (mm_nle c14697) q21179 q21180 (by decide)
            have q21182 := mm_leL (mm_le c20743) q21180 q21181
            have q21183 := mm_ltL (h := 380) (mm_nle c14697) q21181 q21182 (by decide)
            have q21184 := mm_leL (mm_le c20743) q21182 q21183
            have q21185 := mm_ltL (h := 379) (mm_nle c14697) q21183 q21184 (by decide)
            have q21186 := mm_leL (mm_le c20743) q21184 q21185
            have q21187 := mm_ltL (h := 378) (mm_nle c14697) q21185 q21186 (by decide)
            have q21188 := mm_leL (mm_le c20743) q21186 q21187
            have q21189 := mm_ltL (h := 377) (mm_nle c14697) q21187 q21188 (by decide)
            have q21190 := mm_leL (mm_le c20743) q21188 q21189
            have q21191 := mm_ltL (h := 376) (mm_nle c14697) q21189 q21190 (by decide)
            have q21192 := mm_leL (mm_le c20743) q21190 q21191
            have q21193 := mm_ltL (h := 375) (mm_nle c14697) q21191 q21192 (by decide)
            have q21194 := mm_leL (mm_le c20743) q21192 q21193
            have q21195 := mm_ltL (h := 374) (mm_nle c14697) q21193 q21194 (by decide)
            have q21196 := mm_leL (mm_le c20743) q21194 q21195
            have q21197 := mm_ltL (h := 373) (mm_nle c14697) q21195 q21196 (by decide)
            have q21198 := mm_leL (mm_le c20743) q21196 q21197
            have q21199 := mm_ltL (h := 372) (mm_nle c14697) q21197 q21198 (by decide)
            have q21200 := mm_leL (mm_le c20743) q21198 q21199
            have q21201 := mm_ltL (h := 371) (mm_nle c14697) q21199 q21200 (by decide)
            have q21202 := mm_leL (mm_le c20743) q21200 q21201
            have q21203 := mm_ltL (h := 370) (mm_nle c14697) q21201 q21202 (by decide)
            have q21204 := mm_leL (mm_le c20743) q21202 q21203
            have q21205 := mm_ltL (h := 369) (mm_nle c14697) q21203 q21204 (by decide)
            have q21206 := mm_leL (mm_le c20743) q21204 q21205
            have q21207 := mm_ltL (h := 368) (mm_nle c14697) q21205 q21206 (by decide)
            have q21208 := mm_leL (mm_le c20743) q21206 q21207
            have q21209 := mm_ltL (h := 367) (mm_nle c14697) q21207 q21208 (by decide)
            have q21210 := mm_leL (mm_le c20743) q21208 q21209
            have q21211 := mm_ltL (h := 366) (mm_nle c14697) q21209 q21210 (by decide)
            have q21212 := mm_leL (mm_le c20743) q21210 q21211
            have q21213 := mm_ltL (h := 365) (mm_nle c14697) q21211 q21212 (by decide)
            have q21214 := mm_leL (mm_le c20743) q21212 q21213
            have q21215 := mm_ltL (h := 364) (mm_nle c14697) q21213 q21214 (by decide)
            have q21216 := mm_leL (mm_le c20743) q21214 q21215
            have q21217 := mm_ltL (h := 363) (mm_nle c14697) q21215 q21216 (by decide)
            have q21218 := mm_leL (mm_le c20743) q21216 q21217
            have q21219 := mm_ltL (h := 362) (mm_nle c14697) q21217 q21218 (by decide)
            have q21220 := mm_leL (mm_le c20743) q21218 q21219
            have q21221 := mm_ltL (h := 361) (mm_nle c14697) q21219 q21220 (by decide)
            have q21222 := mm_leL (mm_le c20743) q21220 q21221
            have q21223 := mm_ltL (h := 360) (mm_nle c14697) q21221 q21222 (by decide)
            have q21224 := mm_leL (mm_le c20743) q21222 q21223
            have q21225 := mm_ltL (h := 359) (mm_nle c14697) q21223 q21224 (by decide)
            have q21226 := mm_leL (mm_le c20743) q21224 q21225
            have q21227 := mm_ltL (h := 358) (mm_nle c14697) q21225 q21226 (by decide)
            have q21228 := mm_leL (mm_le c20743) q21226 q21227
            have q21229 := mm_ltL (h := 357) (mm_nle c14697) q21227 q21228 (by decide)
            have q21230 := mm_leL (mm_le c20743) q21228 q21229
            have q21231 := mm_ltL (h := 356) (mm_nle c14697) q21229 q21230 (by decide)
            have q21232 := mm_leL (mm_le c20743) q21230 q21231
            have q21233 := mm_ltL (h := 355) (mm_nle c14697) q21231 q21232 (by decide)
            have q21234 := mm_leL (mm_le c20743) q21232 q21233
            have q21235 := mm_ltL (h := 354) (mm_nle c14697) q21233 q21234 (by decide)
            have q21236 := mm_leL (mm_le c20743) q21234 q21235
            have q21237 := mm_ltL (h := 353) (mm_nle c14697) q21235 q21236 (by decide)
            have q21238 := mm_leL (mm_le c20743) q21236 q21237
            have q21239 := mm_ltL (h := 352) (mm_nle c14697) q21237 q21238 (by decide)
            have q21240 := mm_leL (mm_le c20743) q21238 q21239
            have q21241 := mm_ltL (h := 351) (mm_nle c14697) q21239 q21240 (by decide)
            have q21242 := mm_leL (mm_le c20743) q21240 q21241
            have q21243 := mm_ltL (h := 350) (mm_nle c14697) q21241 q21242 (by decide)
            have q21244 := mm_leL (mm_le c20743) q21242 q21243
            have q21245 := mm_ltL (h := 349) (mm_nle c14697) q21243 q21244 (by decide)
            have q21246 := mm_leL (mm_le c20743) q21244 q21245
            have q21247 := mm_ltL (h := 348) (mm_nle c14697) q21245 q21246 (by decide)
            have q21248 := mm_leL (mm_le c20743) q21246 q21247
            have q21249 := mm_ltL (h := 347) (mm_nle c14697) q21247 q21248 (by decide)
            have q21250 := mm_leL (mm_le c20743) q21248 q21249
            have q21251 := mm_ltL (h := 346) (mm_nle c14697) q21249 q21250 (by decide)
            have q21252 := mm_leL (mm_le c20743) q21250 q21251
            have q21253 := mm_ltL (h := 345) (mm_nle c14697) q21251 q21252 (by decide)
            have q21254 := mm_leL (mm_le c20743) q21252 q21253
            have q21255 := mm_ltL (h := 344) (mm_nle c14697) q21253 q21254 (by decide)
            have q21256 := mm_leL (mm_le c20743) q21254 q21255
            have q21257 := mm_ltL (h := 343) (mm_nle c14697) q21255 q21256 (by decide)
            have q21258 := mm_leL (mm_le c20743) q21256 q21257
            have q21259 := mm_ltL (h := 342) (mm_nle c14697) q21257 q21258 (by decide)
            have q21260 := mm_leL (mm_le c20743) q21258 q21259
            have q21261 := mm_ltL (h := 341) (mm_nle c14697) q21259 q21260 (by decide)
            have q21262 := mm_leL (mm_le c20743) q21260 q21261
            have q21263 := mm_ltL (h := 340) (mm_nle c14697) q21261 q21262 (by decide)
            have q21264 := mm_leL (mm_le c20743) q21262 q21263
            have q21265 := mm_ltL (h := 339) (mm_nle c14697) q21263 q21264 (by decide)
            have q21266 := mm_leL (mm_le c20743) q21264 q21265
            have q21267 := mm_ltL (h := 338) (mm_nle c14697) q21265 q21266 (by decide)
            have q21268 := mm_leL (mm_le c20743) q21266 q21267
            have q21269 := mm_ltL (h := 337) (mm_nle c14697) q21267 q21268 (by decide)
            have q21270 := mm_leL (mm_le c20743) q21268 q21269
            have q21271 := mm_ltL (h := 336) (mm_nle c14697) q21269 q21270 (by decide)
            have q21272 := mm_leL (mm_le c20743) q21270 q21271
            have q21273 := mm_ltL (h := 335) (mm_nle c14697) q21271 q21272 (by decide)
            have q21274 := mm_leL (mm_le c20743) q21272 q21273
            have q21275 := mm_ltL (h := 334) (mm_nle c14697) q21273 q21274 (by decide)
            have q21276 := mm_leL (mm_le c20743) q21274 q21275
            have q21277 := mm_ltL (h := 333) (mm_nle c14697) q21275 q21276 (by decide)
            have q21278 := mm_leL (mm_le c20743) q21276 q21277
            have q21279 := mm_ltL (h := 332) (mm_nle c14697) q21277 q21278 (by decide)
            have q21280 := mm_leL (mm_le c20743) q21278 q21279
            have q21281 := mm_ltL (h := 331) (mm_nle c14697) q21279 q21280 (by decide)
            have q21282 := mm_leL (mm_le c20743) q21280 q21281
            have q21283 := mm_ltL (h := 330) (mm_nle c14697) q21281 q21282 (by decide)
            have q21284 := mm_leL (mm_le c20743) q21282 q21283
            have q21285 := mm_ltL (h := 329) (mm_nle c14697) q21283 q21284 (by decide)
            have q21286 := mm_leL (mm_le c20743) q21284 q21285
            have q21287 := mm_ltL (h := 328) (mm_nle c14697) q21285 q21286 (by decide)
            have q21288 := mm_leL (mm_le c20743) q21286 q21287
            have q21289 := mm_ltL (h := 327) (mm_nle c14697) q21287 q21288 (by decide)
            have q21290 := mm_leL (mm_le c20743) q21288 q21289
            have q21291 := mm_ltL (h := 326) (mm_nle c14697) q21289 q21290 (by decide)
            have q21292 := mm_leL (mm_le c20743) q21290 q21291
            have q21293 := mm_ltL (h := 325) (mm_nle c14697) q21291 q21292 (by decide)
            have q21294 := mm_leL (mm_le c20743) q21292 q21293
            have q21295 := mm_ltL (h := 324) (mm_nle c14697) q21293 q21294 (by decide)
            have q21296 := mm_leL (mm_le c20743) q21294 q21295
            have q21297 := mm_ltL (h := 323) (mm_nle c14697) q21295 q21296 (by decide)
            have q21298 := mm_leL (mm_le c20743) q21296 q21297
            have q21299 := mm_ltL (h := 322) (mm_nle c14697) q21297 q21298 (by decide)
            have q21300 := mm_leL (mm_le c20743) q21298 q21299
            have q21301 := mm_ltL (h := 321) (mm_nle c14697) q21299 q21300 (by decide)
            have q21302 := mm_leL (mm_le c20743) q21300 q21301
            have q21303 := mm_ltL (h := 320) (mm_nle c14697) q21301 q21302 (by decide)
            have q21304 := mm_leL (mm_le c20743) q21302 q21303
            have q21305 := mm_ltL (h := 319) (mm_nle c14697) q21303 q21304 (by decide)
            have q21306 := mm_leL (mm_le c20743) q21304 q21305
            have q21307 := mm_ltL (h := 318) (mm_nle c14697) q21305 q21306 (by decide)
            have q21308 := mm_leL (mm_le c20743) q21306 q21307
            have q21309 := mm_ltL (h := 317) (mm_nle c14697) q21307 q21308 (by decide)
            have q21310 := mm_leL (mm_le c20743) q21308 q21309
            have q21311 := mm_ltL (h := 316) (mm_nle c14697) q21309 q21310 (by decide)
            have q21312 := mm_leL (mm_le c20743) q21310 q21311
            have q21313 := mm_ltL (h := 315) (mm_nle c14697) q21311 q21312 (by decide)
            have q21314 := mm_leL (mm_le c20743) q21312 q21313
            have q21315 := mm_ltL (h := 314) (mm_nle c14697) q21313 q21314 (by decide)
            have q21316 := mm_leL (mm_le c20743) q21314 q21315
            have q21317 := mm_ltL (h := 313) (mm_nle c14697) q21315 q21316 (by decide)
            have q21318 := mm_leL (mm_le c20743) q21316 q21317
            have q21319 := mm_ltL (h := 312) (mm_nle c14697) q21317 q21318 (by decide)
            have q21320 := mm_leL (mm_le c20743) q21318 q21319
            have q21321 := mm_ltL (h := 311) (mm_nle c14697) q21319 q21320 (by decide)
            have q21322 := mm_leL (mm_le c20743) q21320 q21321
            have q21323 := mm_ltL (h := 310) (mm_nle c14697) q21321 q21322 (by decide)
            have q21324 := mm_leL (mm_le c20743) q21322 q21323
            have q21325 := mm_ltL (h := 309) (mm_nle c14697) q21323 q21324 (by decide)
            have q21326 := mm_leL (mm_le c20743) q21324 q21325
            have q21327 := mm_ltL (h := 308) (mm_nle c14697) q21325 q21326 (by decide)
            have q21328 := mm_leL (mm_le c20743) q21326 q21327
            have q21329 := mm_ltL (h := 307) (mm_nle c14697) q21327 q21328 (by decide)
            have q21330 := mm_leL (mm_le c20743) q21328 q21329
            have q21331 := mm_ltL (h := 306) (mm_nle c14697) q21329 q21330 (by decide)
            have q21332 := mm_leL (mm_le c20743) q21330 q21331
            have q21333 := mm_ltL (h := 305) (mm_nle c14697) q21331 q21332 (by decide)
            have q21334 := mm_leL (mm_le c20743) q21332 q21333
            have q21335 := mm_ltL (h := 304) (mm_nle c14697) q21333 q21334 (by decide)
            have q21336 := mm_leL (mm_le c20743) q21334 q21335
            have q21337 := mm_ltL (h := 303) (mm_nle c14697) q21335 q21336 (by decide)
            have q21338 := mm_leL (mm_le c20743) q21336 q21337
            have q21339 := mm_ltL (h := 302) (mm_nle c14697) q21337 q21338 (by decide)
            have q21340 := mm_leL (mm_le c20743) q21338 q21339
            have q21341 := mm_ltL (h := 301) (mm_nle c14697) q21339 q21340 (by decide)
            have q21342 := mm_leL (mm_le c20743) q21340 q21341
            have q21343 := mm_ltL (h := 300) (mm_nle c14697) q21341 q21342 (by decide)
            have q21344 := mm_leL (mm_le c20743) q21342 q21343
            have q21345 := mm_ltL (h := 299) (mm_nle c14697) q21343 q21344 (by decide)
            have q21346 := mm_leL (mm_le c20743) q21344 q21345
            have q21347 := mm_ltL (h := 298) (mm_nle c14697) q21345 q21346 (by decide)
            have q21348 := mm_leL (mm_le c20743) q21346 q21347
            have q21349 := mm_ltL (h := 297) (mm_nle c14697) q21347 q21348 (by decide)
            have q21350 := mm_leL (mm_le c20743) q21348 q21349
            have q21351 := mm_ltL (h := 296) (mm_nle c14697) q21349 q21350 (by decide)
            have q21352 := mm_leL (mm_le c20743) q21350 q21351
            have q21353 := mm_ltL (h := 295) (mm_nle c14697) q21351 q21352 (by decide)
            have q21354 := mm_leL (mm_le c20743) q21352 q21353
            have q21355 := mm_ltL (h := 294) (mm_nle c14697) q21353 q21354 (by decide)
            have q21356 := mm_leL (mm_le c20743) q21354 q21355
            have q21357 := mm_ltL (h := 293) (mm_nle c14697) q21355 q21356 (by decide)
            have q21358 := mm_leL (mm_le c20743) q21356 q21357
            have q21359 := mm_ltL (h := 292) (mm_nle c14697) q21357 q21358 (by decide)
            have q21360 := mm_leL (mm_le c20743) q21358 q21359
            have q21361 := mm_ltL (h := 291) (mm_nle c14697) q21359 q21360 (by decide)
            have q21362 := mm_leL (mm_le c20743) q21360 q21361
            have q21363 := mm_ltL (h := 290) (mm_nle c14697) q21361 q21362 (by decide)
            have q21364 := mm_leL (mm_le c20743) q21362 q21363
            have q21365 := mm_ltL (h := 289) (mm_nle c14697) q21363 q21364 (by decide)
            have q21366 := mm_leL (mm_le c20743) q21364 q21365
            have q21367 := mm_ltL (h := 288) (mm_nle c14697) q21365 q21366 (by decide)
            have q21368 := mm_leL (mm_le c20743) q21366 q21367
            have q21369 := mm_ltL (h := 287) (mm_nle c14697) q21367 q21368 (by decide)
            have q21370 := mm_leL (mm_le c20743) q21368 q21369
            have q21371 := mm_ltL (h := 286) (mm_nle c14697) q21369 q21370 (by decide)
            have q21372 := mm_leL (mm_le c20743) q21370 q21371
            have q21373 := mm_ltL (h := 285) (mm_nle c14697) q21371 q21372 (by decide)
            have q21374 := mm_leL (mm_le c20743) q21372 q21373
            have q21375 := mm_ltL (h := 284) (mm_nle c14697) q21373 q21374 (by decide)
            have q21376 := mm_leL (mm_le c20743) q21374 q21375
            have q21377 := mm_ltL (h := 283) (mm_nle c14697) q21375 q21376 (by decide)
            have q21378 := mm_leL (mm_le c20743) q21376 q21377
            have q21379 := mm_ltL (h := 282) (mm_nle c14697) q21377 q21378 (by decide)
            have q21380 := mm_leL (mm_le c20743) q21378 q21379
            have q21381 := mm_ltL (h := 281) (mm_nle c14697) q21379 q21380 (by decide)
            have q21382 := mm_leL (mm_le c20743) q21380 q21381
            have q21383 := mm_ltL (h := 280) (mm_nle c14697) q21381 q21382 (by decide)
            have q21384 := mm_leL (mm_le c20743) q21382 q21383
            have q21385 := mm_ltL (h := 279) (mm_nle c14697) q21383 q21384 (by decide)
            have q21386 := mm_leL (mm_le c20743) q21384 q21385
            have q21387 := mm_ltL (h := 278) (mm_nle c14697) q21385 q21386 (by decide)
            have q21388 := mm_leL (mm_le c20743) q21386 q21387
            have q21389 := mm_ltL (h := 277) (mm_nle c14697) q21387 q21388 (by decide)
            have q21390 := mm_leL (mm_le c20743) q21388 q21389
            have q21391 := mm_ltL (h := 276) (mm_nle c14697) q21389 q21390 (by decide)
            have q21392 := mm_leL (mm_le c20743) q21390 q21391
            have q21393 := mm_ltL (h := 275) (mm_nle c14697) q21391 q21392 (by decide)
            have q21394 := mm_leL (mm_le c20743) q21392 q21393
            have q21395 := mm_ltL (h := 274) (mm_nle c14697) q21393 q21394 (by decide)
            have q21396 := mm_leL (mm_le c20743) q21394 q21395
            have q21397 := mm_ltL (h := 273) (mm_nle c14697) q21395 q21396 (by decide)
            have q21398 := mm_leL (mm_le c20743) q21396 q21397
            have q21399 := mm_ltL (h := 272) (mm_nle c14697) q21397 q21398 (by decide)
            have q21400 := mm_leL (mm_le c20743) q21398 q21399
            have q21401 := mm_ltL (h := 271) (mm_nle c14697) q21399 q21400 (by decide)
            have q21402 := mm_leL (mm_le c20743) q21400 q21401
            have q21403 := mm_ltL (h := 270) (mm_nle c14697) q21401 q21402 (by decide)
            have q21404 := mm_leL (mm_le c20743) q21402 q21403
            have q21405 := mm_ltL (h := 269) (mm_nle c14697) q21403 q21404 (by decide)
            have q21406 := mm_leL (mm_le c20743) q21404 q21405
            have q21407 := mm_ltL (h := 268) (mm_nle c14697) q21405 q21406 (by decide)
            have q21408 := mm_leL (mm_le c20743) q21406 q21407
            have q21409 := mm_ltL (h := 267) (mm_nle c14697) q21407 q21408 (by decide)
            have q21410 := mm_leL (mm_le c20743) q21408 q21409
            have q21411 := mm_ltL (h := 266) (mm_nle c14697) q21409 q21410 (by decide)
            have q21412 := mm_leL (mm_le c20743) q21410 q21411
            have q21413 := mm_ltL (h := 265) (mm_nle c14697) q21411 q21412 (by decide)
            have q21414 := mm_leL (mm_le c20743) q21412 q21413
            have q21415 := mm_ltL (h := 264) (mm_nle c14697) q21413 q21414 (by decide)
            have q21416 := mm_leL (mm_le c20743) q21414 q21415
            have q21417 := mm_ltL (h := 263) (mm_nle c14697) q21415 q21416 (by decide)
            have q21418 := mm_leL (mm_le c20743) q21416 q21417
            have q21419 := mm_ltL (h := 262) (mm_nle c14697) q21417 q21418 (by decide)
            have q21420 := mm_leL (mm_le c20743) q21418 q21419
            have q21421 := mm_ltL (h := 261) (mm_nle c14697) q21419 q21420 (by decide)
            have q21422 := mm_leL (mm_le c20743) q21420 q21421
            have q21423 := mm_ltL (h := 260) (mm_nle c14697) q21421 q21422 (by decide)
            have q21424 := mm_leL (mm_le c20743) q21422 q21423
            have q21425 := mm_ltL (h := 259) (mm_nle c14697) q21423 q21424 (by decide)
            have q21426 := mm_leL (mm_le c20743) q21424 q21425
            have q21427 := mm_ltL (h := 258) (mm_nle c14697) q21425 q21426 (by decide)
            have q21428 := mm_leL (mm_le c20743) q21426 q21427
            have q21429 := mm_ltL (h := 257) (mm_nle c14697) q21427 q21428 (by decide)
            have q21430 := mm_leL (mm_le c20743) q21428 q21429
            have q21431 := mm_ltL (h := 256) (mm_nle c14697) q21429 q21430 (by decide)
            have q21432 := mm_leL (mm_le c20743) q21430 q21431
            have q21433 := mm_ltL (h := 255) (mm_nle c14697) q21431 q21432 (by decide)
            have q21434 := mm_leL (mm_le c20743) q21432 q21433
            have q21435 := mm_ltL (h := 254) (mm_nle c14697) q21433 q21434 (by decide)
            have q21436 := mm_leL (mm_le c20743) q21434 q21435
            have q21437 := mm_ltL (h := 253) (mm_nle c14697) q21435 q21436 (by decide)
            have q21438 := mm_leL (mm_le c20743) q21436 q21437
            have q21439 := mm_ltL (h := 252) (mm_nle c14697) q21437 q21438 (by decide)
            have q21440 := mm_leL (mm_le c20743) q21438 q21439
            have q21441 := mm_ltL (h := 251) (mm_nle c14697) q21439 q21440 (by decide)
            have q21442 := mm_leL (mm_le c20743) q21440 q21441
            have q21443 := mm_ltL (h := 250) (mm_nle c14697) q21441 q21442 (by decide)
            have q21444 := mm_leL (mm_le c20743) q21442 q21443
            have q21445 := mm_ltL (h := 249) (mm_nle c14697) q21443 q21444 (by decide)
            have q21446 := mm_leL (mm_le c20743) q21444 q21445
            have q21447 := mm_ltL (h := 248) (mm_nle c14697) q21445 q21446 (by decide)
            have q21448 := mm_leL (mm_le c20743) q21446 q21447
            have q21449 := mm_ltL (h := 247) (mm_nle c14697) q21447 q21448 (by decide)
            have q21450 := mm_leL (mm_le c20743) q21448 q21449
            have q21451 := mm_ltL (h := 246) (mm_nle c14697) q21449 q21450 (by decide)
            have q21452 := mm_leL (mm_le c20743) q21450 q21451
            have q21453 := mm_ltL (h := 245) (mm_nle c14697) q21451 q21452 (by decide)
            have q21454 := mm_leL (mm_le c20743) q21452 q21453
            have q21455 := mm_ltL (h := 244) (mm_nle c14697) q21453 q21454 (by decide)
            have q21456 := mm_leL (mm_le c20743) q21454 q21455
            have q21457 := mm_ltL (h := 243) (mm_nle c14697) q21455 q21456 (by decide)
            have q21458 := mm_leL (mm_le c20743) q21456 q21457
            have q21459 := mm_ltL (h := 242) (mm_nle c14697) q21457 q21458 (by decide)
            have q21460 := mm_leL (mm_le c20743) q21458 q21459
            have q21461 := mm_ltL (h := 241) (mm_nle c14697) q21459 q21460 (by decide)
            have q21462 := mm_leL (mm_le c20743) q21460 q21461
            have q21463 := mm_ltL (h := 240) (mm_nle c14697) q21461 q21462 (by decide)
            have q21464 := mm_leL (mm_le c20743) q21462 q21463
            have q21465 := mm_ltL (h := 239) (mm_nle c14697) q21463 q21464 (by decide)
            have q21466 := mm_leL (mm_le c20743) q21464 q21465
            have q21467 := mm_ltL (h := 238) (mm_nle c14697) q21465 q21466 (by decide)
            have q21468 := mm_leL (mm_le c20743) q21466 q21467
            have q21469 := mm_ltL (h := 237) (mm_nle c14697) q21467 q21468 (by decide)
            have q21470 := mm_leL (mm_le c20743) q21468 q21469
            have q21471 := mm_ltL (h := 236) (mm_nle c14697) q21469 q21470 (by decide)
            have q21472 := mm_leL (mm_le c20743) q21470 q21471
            have q21473 := mm_ltL (h := 235) (mm_nle c14697) q21471 q21472 (by decide)
            have q21474 := mm_leL (mm_le c20743) q21472 q21473
            have q21475 := mm_ltL (h := 234) (mm_nle c14697) q21473 q21474 (by decide)
            have q21476 := mm_leL (mm_le c20743) q21474 q21475
            have q21477 := mm_ltL (h := 233) (mm_nle c14697) q21475 q21476 (by decide)
            have q21478 := mm_leL (mm_le c20743) q21476 q21477
            have q21479 := mm_ltL (h := 232) (mm_nle c14697) q21477 q21478 (by decide)
            have q21480 := mm_leL (mm_le c20743) q21478 q21479
            have q21481 := mm_ltL (h := 231) (mm_nle c14697) q21479 q21480 (by decide)
            have q21482 := mm_leL (mm_le c20743) q21480 q21481
            have q21483 := mm_ltL (h := 230) (mm_nle c14697) q21481 q21482 (by decide)
            have q21484 := mm_leL (mm_le c20743) q21482 q21483
            have q21485 := mm_ltL (h := 229) (mm_nle c14697) q21483 q21484 (by decide)
            have q21486 := mm_leL (mm_le c20743) q21484 q21485
            have q21487 := mm_ltL (h := 228) (mm_nle c14697) q21485 q21486 (by decide)
            have q21488 := mm_leL (mm_le c20743) q21486 q21487
            have q21489 := mm_ltL (h := 227) (mm_nle c14697) q21487 q21488 (by decide)
            have q21490 := mm_leL (mm_le c20743) q21488 q21489
            have q21491 := mm_ltL (h := 226) (mm_nle c14697) q21489 q21490 (by decide)
            have q21492 := mm_leL (mm_le c20743) q21490 q21491
            have q21493 := mm_ltL (h := 225) (mm_nle c14697) q21491 q21492 (by decide)
            have q21494 := mm_leL (mm_le c20743) q21492 q21493
            have q21495 := mm_ltL (h := 224) (mm_nle c14697) q21493 q21494 (by decide)
            have q21496 := mm_leL (mm_le c20743) q21494 q21495
            have q21497 := mm_ltL (h := 223) (mm_nle c14697) q21495 q21496 (by decide)
            have q21498 := mm_leL (mm_le c20743) q21496 q21497
            have q21499 := mm_ltL (h := 222) (mm_nle c14697) q21497 q21498 (by decide)
            have q21500 := mm_leL (mm_le c20743) q21498 q21499
            have q21501 := mm_ltL (h := 221) (mm_nle c14697) q21499 q21500 (by decide)
            have q21502 := mm_leL (mm_le c20743) q21500 q21501
            have q21503 := mm_ltL (h := 220) (mm_nle c14697) q21501 q21502 (by decide)
            have q21504 := mm_leL (mm_le c20743) q21502 q21503
            have q21505 := mm_ltL (h := 219) (mm_nle c14697) q21503 q21504 (by decide)
            have q21506 := mm_leL (mm_le c20743) q21504 q21505
            have q21507 := mm_ltL (h := 218) (mm_nle c14697) q21505 q21506 (by decide)
            have q21508 := mm_leL (mm_le c20743) q21506 q21507
            have q21509 := mm_ltL (h := 217) (mm_nle c14697) q21507 q21508 (by decide)
            have q21510 := mm_leL (mm_le c20743) q21508 q21509
            have q21511 := mm_ltL (h := 216) (mm_nle c14697) q21509 q21510 (by decide)
            have q21512 := mm_leL (mm_le c20743) q21510 q21511
            have q21513 := mm_ltL (h := 215) (mm_nle c14697) q21511 q21512 (by decide)
            have q21514 := mm_leL (mm_le c20743) q21512 q21513
            have q21515 := mm_ltL (h := 214) (mm_nle c14697) q21513 q21514 (by decide)
            have q21516 := mm_leL (mm_le c20743) q21514 q21515
            have q21517 := mm_ltL (h := 213) (mm_nle c14697) q21515 q21516 (by decide)
            have q21518 := mm_leL (mm_le c20743) q21516 q21517
            have q21519 := mm_ltL (h := 212) (mm_nle c14697) q21517 q21518 (by decide)
            have q21520 := mm_leL (mm_le c20743) q21518 q21519
            have q21521 := mm_ltL (h := 211) (mm_nle c14697) q21519 q21520 (by decide)
            have q21522 := mm_leL (mm_le c20743) q21520 q21521
            have q21523 := mm_ltL (h := 210) (mm_nle c14697) q21521 q21522 (by decide)
            have q21524 := mm_leL (mm_le c20743) q21522 q21523
            have q21525 := mm_ltL (h := 209) (mm_nle c14697) q21523 q21524 (by decide)
            have q21526 := mm_leL (mm_le c20743) q21524 q21525
            have q21527 := mm_ltL (h := 208) (mm_nle c14697) q21525 q21526 (by decide)
            have q21528 := mm_leL (mm_le c20743) q21526 q21527
            have q21529 := mm_ltL (h := 207) (mm_nle c14697) q21527 q21528 (by decide)
            have q21530 := mm_leL (mm_le c20743) q21528 q21529
            have q21531 := mm_ltL (h := 206) (mm_nle c14697) q21529 q21530 (by decide)
            have q21532 := mm_leL (mm_le c20743) q21530 q21531
            have q21533 := mm_ltL (h := 205) (mm_nle c14697) q21531 q21532 (by decide)
            have q21534 := mm_leL (mm_le c20743) q21532 q21533
            have q21535 := mm_ltL (h := 204) (mm_nle c14697) q21533 q21534 (by decide)
            have q21536 := mm_leL (mm_le c20743) q21534 q21535
            have q21537 := mm_ltL (h := 203) (mm_nle c14697) q21535 q21536 (by decide)
            have q21538 := mm_leL (mm_le c20743) q21536 q21537
            have q21539 := mm_ltL (h := 202) (mm_nle c14697) q21537 q21538 (by decide)
            have q21540 := mm_leL (mm_le c20743) q21538 q21539
            have q21541 := mm_ltL (h := 201) (mm_nle c14697) q21539 q21540 (by decide)
            have q21542 := mm_leL (mm_le c20743) q21540 q21541
            have q21543 := mm_ltL (h := 200) (mm_nle c14697) q21541 q21542 (by decide)
            have q21544 := mm_leL (mm_le c20743) q21542 q21543
            have q21545 := mm_ltL (h := 199) (mm_nle c14697) q21543 q21544 (by decide)
            have q21546 := mm_leL (mm_le c20743) q21544 q21545
            have q21547 := mm_ltL (h := 198) (mm_nle c14697) q21545 q21546 (by decide)
            have q21548 := mm_leL (mm_le c20743) q21546 q21547
            have q21549 := mm_ltL (h := 197) (mm_nle c14697) q21547 q21548 (by decide)
            have q21550 := mm_leL (mm_le c20743) q21548 q21549
            have q21551 := mm_ltL (h := 196) (mm_nle c14697) q21549 q21550 (by decide)
            have q21552 := mm_leL (mm_le c20743) q21550 q21551
            have q21553 := mm_ltL (h := 195) (mm_nle c14697) q21551 q21552 (by decide)
            have q21554 := mm_leL (mm_le c20743) q21552 q21553
            have q21555 := mm_ltL (h := 194) (mm_nle c14697) q21553 q21554 (by decide)
            have q21556 := mm_leL (mm_le c20743) q21554 q21555
            have q21557 := mm_ltL (h := 193) (mm_nle c14697) q21555 q21556 (by decide)
            have q21558 := mm_leL (mm_le c20743) q21556 q21557
            have q21559 := mm_ltL (h := 192) (mm_nle c14697) q21557 q21558 (by decide)
            have q21560 := mm_leL (mm_le c20743) q21558 q21559
            have q21561 := mm_ltL (h := 191) (mm_nle c14697) q21559 q21560 (by decide)
            have q21562 := mm_leL (mm_le c20743) q21560 q21561
            have q21563 := mm_ltL (h := 190) (mm_nle c14697) q21561 q21562 (by decide)
            have q21564 := mm_leL (mm_le c20743) q21562 q21563
            have q21565 := mm_ltL (h := 189) (mm_nle c14697) q21563 q21564 (by decide)
            have q21566 := mm_leL (mm_le c20743) q21564 q21565
            have q21567 := mm_ltL (h := 188) (mm_nle c14697) q21565 q21566 (by decide)
            have q21568 := mm_leL (mm_le c20743) q21566 q21567
            have q21569 := mm_ltL (h := 187) (mm_nle c14697) q21567 q21568 (by decide)
            have q21570 := mm_leL (mm_le c20743) q21568 q21569
            have q21571 := mm_ltL (h := 186) (mm_nle c14697) q21569 q21570 (by decide)
            have q21572 := mm_leL (mm_le c20743) q21570 q21571
            have q21573 := mm_ltL (h := 185) (mm_nle c14697) q21571 q21572 (by decide)
            have q21574 := mm_leL (mm_le c20743) q21572 q21573
            have q21575 := mm_ltL (h := 184) (mm_nle c14697) q21573 q21574 (by decide)
            have q21576 := mm_leL (mm_le c20743) q21574 q21575
            have q21577 := mm_ltL (h := 183) (mm_nle c14697) q21575 q21576 (by decide)
            have q21578 := mm_leL (mm_le c20743) q21576 q21577
            have q21579 := mm_ltL (h := 182) (mm_nle c14697) q21577 q21578 (by decide)
            have q21580 := mm_leL (mm_le c20743) q21578 q21579
            have q21581 := mm_ltL (h := 181) (mm_nle c14697) q21579 q21580 (by decide)
            have q21582 := mm_leL (mm_le c20743) q21580 q21581
            have q21583 := mm_ltL (h := 180) (mm_nle c14697) q21581 q21582 (by decide)
            have q21584 := mm_leL (mm_le c20743) q21582 q21583
            have q21585 := mm_ltL (h := 179) (mm_nle c14697) q21583 q21584 (by decide)
            have q21586 := mm_leL (mm_le c20743) q21584 q21585
            have q21587 := mm_ltL (h := 178) (mm_nle c14697) q21585 q21586 (by decide)
            have q21588 := mm_leL (mm_le c20743) q21586 q21587
            have q21589 := mm_ltL (h := 177) (mm_nle c14697) q21587 q21588 (by decide)
            have q21590 := mm_leL (mm_le c20743) q21588 q21589
            have q21591 := mm_ltL (h := 176) (mm_nle c14697) q21589 q21590 (by decide)
            have q21592 := mm_leL (mm_le c20743) q21590 q21591
            have q21593 := mm_ltL (h := 175) (mm_nle c14697) q21591 q21592 (by decide)
            have q21594 := mm_leL (mm_le c20743) q21592 q21593
            have q21595 := mm_ltL (h := 174) (mm_nle c14697) q21593 q21594 (by decide)
            have q21596 := mm_leL (mm_le c20743) q21594 q21595
            have q21597 := mm_ltL (h := 173) (mm_nle c14697) q21595 q21596 (by decide)
            have q21598 := mm_leL (mm_le c20743) q21596 q21597
            have q21599 := mm_ltL (h := 172) (mm_nle c14697) q21597 q21598 (by decide)
            have q21600 := mm_leL (mm_le c20743) q21598 q21599
            have q21601 := mm_ltL (h := 171) (mm_nle c14697) q21599 q21600 (by decide)
            have q21602 := mm_leL (mm_le c20743) q21600 q21601
            have q21603 := mm_ltL (h := 170) (mm_nle c14697) q21601 q21602 (by decide)
            have q21604 := mm_leL (mm_le c20743) q21602 q21603
            have q21605 := mm_ltL (h := 169) (mm_nle c14697) q21603 q21604 (by decide)
            have q21606 := mm_leL (mm_le c20743) q21604 q21605
            have q21607 := mm_ltL (h := 168) (mm_nle c14697) q21605 q21606 (by decide)
            have q21608 := mm_leL (mm_le c20743) q21606 q21607
            have q21609 := mm_ltL (h := 167) (mm_nle c14697) q21607 q21608 (by decide)
            have q21610 := mm_leL (mm_le c20743) q21608 q21609
            have q21611 := mm_ltL (h := 166) (mm_nle c14697) q21609 q21610 (by decide)
            have q21612 := mm_leL (mm_le c20743) q21610 q21611
            have q21613 := mm_ltL (h := 165) (mm_nle c14697) q21611 q21612 (by decide)
            have q21614 := mm_leL (mm_le c20743) q21612 q21613
            have q21615 := mm_ltL (h := 164) (mm_nle c14697) q21613 q21614 (by decide)
            have q21616 := mm_leL (mm_le c20743) q21614 q21615
            have q21617 := mm_ltL (h := 163) (mm_nle c14697) q21615 q21616 (by decide)
            have q21618 := mm_leL (mm_le c20743) q21616 q21617
            have q21619 := mm_ltL (h := 162) (mm_nle c14697) q21617 q21618 (by decide)
            have q21620 := mm_leL (mm_le c20743) q21618 q21619
            have q21621 := mm_ltL (h := 161) (mm_nle c14697) q21619 q21620 (by decide)
            have q21622 := mm_leL (mm_le c20743) q21620 q21621
            have q21623 := mm_ltL (h := 160) (mm_nle c14697) q21621 q21622 (by decide)
            have q21624 := mm_leL (mm_le c20743) q21622 q21623
            have q21625 := mm_ltL (h := 159) (mm_nle c14697) q21623 q21624 (by decide)
            have q21626 := mm_leL (mm_le c20743) q21624 q21625
            have q21627 := mm_ltL (h := 158) (mm_nle c14697) q21625 q21626 (by decide)
            have q21628 := mm_leL (mm_le c20743) q21626 q21627
            have q21629 := mm_ltL (h := 157) (mm_nle c14697) q21627 q21628 (by decide)
            have q21630 := mm_leL (mm_le c20743) q21628 q21629
            have q21631 := mm_ltL (h := 156) (mm_nle c14697) q21629 q21630 (by decide)
            have q21632 := mm_leL (mm_le c20743) q21630 q21631
            have q21633 := mm_ltL (h := 155) (mm_nle c14697) q21631 q21632 (by decide)
            have q21634 := mm_leL (mm_le c20743) q21632 q21633
            have q21635 := mm_ltL (h := 154) (mm_nle c14697) q21633 q21634 (by decide)
            have q21636 := mm_leL (mm_le c20743) q21634 q21635
            have q21637 := mm_ltL (h := 153) (mm_nle c14697) q21635 q21636 (by decide)
            have q21638 := mm_leL (mm_le c20743) q21636 q21637
            have q21639 := mm_ltL (h := 152) (mm_nle c14697) q21637 q21638 (by decide)
            have q21640 := mm_leL (mm_le c20743) q21638 q21639
            have q21641 := mm_ltL (h := 151) (mm_nle c14697) q21639 q21640 (by decide)
            have q21642 := mm_leL (mm_le c20743) q21640 q21641
            have q21643 := mm_ltL (h := 150) (mm_nle c14697) q21641 q21642 (by decide)
            have q21644 := mm_leL (mm_le c20743) q21642 q21643
            have q21645 := mm_ltL (h := 149) (mm_nle c14697) q21643 q21644 (by decide)
            have q21646 := mm_leL (mm_le c20743) q21644 q21645
            have q21647 := mm_ltL (h := 148) (mm_nle c14697) q21645 q21646 (by decide)
            have q21648 := mm_leL (mm_le c20743) q21646 q21647
            have q21649 := mm_ltL (h := 147) (mm_nle c14697) q21647 q21648 (by decide)
            have q21650 := mm_leL (mm_le c20743) q21648 q21649
            have q21651 := mm_ltL (h := 146) (mm_nle c14697) q21649 q21650 (by decide)
            have q21652 := mm_leL (mm_le c20743) q21650 q21651
            have q21653 := mm_ltL (h := 145) (mm_nle c14697) q21651 q21652 (by decide)
            have q21654 := mm_leL (mm_le c20743) q21652 q21653
            have q21655 := mm_ltL (h := 144) (mm_nle c14697) q21653 q21654 (by decide)
            have q21656 := mm_leL (mm_le c20743) q21654 q21655
            have q21657 := mm_ltL (h := 143) (mm_nle c14697) q21655 q21656 (by decide)
            have q21658 := mm_leL (mm_le c20743) q21656 q21657
            have q21659 := mm_ltL (h := 142) (mm_nle c14697) q21657 q21658 (by decide)
            have q21660 := mm_leL (mm_le c20743) q21658 q21659
            have q21661 := mm_ltL (h := 141) (mm_nle c14697) q21659 q21660 (by decide)
            have q21662 := mm_leL (mm_le c20743) q21660 q21661
            have q21663 := mm_ltL (h := 140) (mm_nle c14697) q21661 q21662 (by decide)
            have q21664 := mm_leL (mm_le c20743) q21662 q21663
            have q21665 := mm_ltL (h := 139) (mm_nle c14697) q21663 q21664 (by decide)
            have q21666 := mm_leL (mm_le c20743) q21664 q21665
            have q21667 := mm_ltL (h := 138) (mm_nle c14697) q21665 q21666 (by decide)
            have q21668 := mm_leL (mm_le c20743) q21666 q21667
            have q21669 := mm_ltL (h := 137) (mm_nle c14697) q21667 q21668 (by decide)
            have q21670 := mm_leL (mm_le c20743) q21668 q21669
            have q21671 := mm_ltL (h := 136) (mm_nle c14697) q21669 q21670 (by decide)
            have q21672 := mm_leL (mm_le c20743) q21670 q21671
            have q21673 := mm_ltL (h := 135) (mm_nle c14697) q21671 q21672 (by decide)
            have q21674 := mm_leL (mm_le c20743) q21672 q21673
            have q21675 := mm_ltL (h := 134) (mm_nle c14697) q21673 q21674 (by decide)
            have q21676 := mm_leL (mm_le c20743) q21674 q21675
            have q21677 := mm_ltL (h := 133) (mm_nle c14697) q21675 q21676 (by decide)
            have q21678 := mm_leL (mm_le c20743) q21676 q21677
            have q21679 := mm_ltL (h := 132) (mm_nle c14697) q21677 q21678 (by decide)
            have q21680 := mm_leL (mm_le c20743) q21678 q21679
            have q21681 := mm_ltL (h := 131) (mm_nle c14697) q21679 q21680 (by decide)
            have q21682 := mm_leL (mm_le c20743) q21680 q21681
            have q21683 := mm_ltL (h := 130) (mm_nle c14697) q21681 q21682 (by decide)
            have q21684 := mm_leL (mm_le c20743) q21682 q21683
            have q21685 := mm_ltL (h := 129) (mm_nle c14697) q21683 q21684 (by decide)
            have q21686 := mm_leL (mm_le c20743) q21684 q21685
            have q21687 := mm_ltL (h := 128) (mm_nle c14697) q21685 q21686 (by decide)
            have q21688 := mm_leL (mm_le c20743) q21686 q21687
            have q21689 := mm_ltL (h := 127) (mm_nle c14697) q21687 q21688 (by decide)
            have q21690 := mm_leL (mm_le c20743) q21688 q21689
            have q21691 := mm_ltL (h := 126) (mm_nle c14697) q21689 q21690 (by decide)
            have q21692 := mm_leL (mm_le c20743) q21690 q21691
            have q21693 := mm_ltL (h := 125) (mm_nle c14697) q21691 q21692 (by decide)
            have q21694 := mm_leL (mm_le c20743) q21692 q21693
            have q21695 := mm_ltL (h := 124) (mm_nle c14697) q21693 q21694 (by decide)
            have q21696 := mm_leL (mm_le c20743) q21694 q21695
            have q21697 := mm_ltL (h := 123) (mm_nle c14697) q21695 q21696 (by decide)
            have q21698 := mm_leL (mm_le c20743) q21696 q21697
            have q21699 := mm_ltL (h := 122) (mm_nle c14697) q21697 q21698 (by decide)
            have q21700 := mm_leL (mm_le c20743) q21698 q21699
            have q21701 := mm_ltL (h := 121) (mm_nle c14697) q21699 q21700 (by decide)
            have q21702 := mm_leL (mm_le c20743) q21700 q21701
            have q21703 := mm_ltL (h := 120) (mm_nle c14697) q21701 q21702 (by decide)
            have q21704 := mm_leL (mm_le c20743) q21702 q21703
            have q21705 := mm_ltL (h := 119) (mm_nle c14697) q21703 q21704 (by decide)
            have q21706 := mm_leL (mm_le c20743) q21704 q21705
            have q21707 := mm_ltL (h := 118) (mm_nle c14697) q21705 q21706 (by decide)
            have q21708 := mm_leL (mm_le c20743) q21706 q21707
            have q21709 := mm_ltL (h := 117) (mm_nle c14697) q21707 q21708 (by decide)
            have q21710 := mm_leL (mm_le c20743) q21708 q21709
            have q21711 := mm_ltL (h := 116) (mm_nle c14697) q21709 q21710 (by decide)
            have q21712 := mm_leL (mm_le c20743) q21710 q21711
            have q21713 := mm_ltL (h := 115) (mm_nle c14697) q21711 q21712 (by decide)
            have q21714 := mm_leL (mm_le c20743) q21712 q21713
            have q21715 := mm_ltL (h := 114) (mm_nle c14697) q21713 q21714 (by decide)
            have q21716 := mm_leL (mm_le c20743) q21714 q21715
            have q21717 := mm_ltL (h := 113) (mm_nle c14697) q21715 q21716 (by decide)
            have q21718 := mm_leL (mm_le c20743) q21716 q21717
            have q21719 := mm_ltL (h := 112) (mm_nle c14697) q21717 q21718 (by decide)
            have q21720 := mm_leL (mm_le c20743) q21718 q21719
            have q21721 := mm_ltL (h := 111) (mm_nle c14697) q21719 q21720 (by decide)
            have q21722 := mm_leL (mm_le c20743) q21720 q21721
            have q21723 := mm_ltL (h := 110) (mm_nle c14697) q21721 q21722 (by decide)
            have q21724 := mm_leL (mm_le c20743) q21722 q21723
            have q21725 := mm_ltL (h := 109) (mm_nle c14697) q21723 q21724 (by decide)
            have q21726 := mm_leL (mm_le c20743) q21724 q21725
            have q21727 := mm_ltL (h := 108) (mm_nle c14697) q21725 q21726 (by decide)
            have q21728 := mm_leL (mm_le c20743) q21726 q21727
            have q21729 := mm_ltL (h := 107) (mm_nle c14697) q21727 q21728 (by decide)
            have q21730 := mm_leL (mm_le c20743) q21728 q21729
            have q21731 := mm_ltL (h := 106) (mm_nle c14697) q21729 q21730 (by decide)
            have q21732 := mm_leL (mm_le c20743) q21730 q21731
            have q21733 := mm_ltL (h := 105) (mm_nle c14697) q21731 q21732 (by decide)
            have q21734 := mm_leL (mm_le c20743) q21732 q21733
            have q21735 := mm_ltL (h := 104) (mm_nle c14697) q21733 q21734 (by decide)
            have q21736 := mm_leL (mm_le c20743) q21734 q21735
            have q21737 := mm_ltL (h := 103) (mm_nle c14697) q21735 q21736 (by decide)
            have q21738 := mm_leL (mm_le c20743) q21736 q21737
            have q21739 := mm_ltL (h := 102) (mm_nle c14697) q21737 q21738 (by decide)
            have q21740 := mm_leL (mm_le c20743) q21738 q21739
            have q21741 := mm_ltL (h := 101) (mm_nle c14697) q21739 q21740 (by decide)
            have q21742 := mm_leL (mm_le c20743) q21740 q21741
            have q21743 := mm_ltL (h := 100) (mm_nle c14697) q21741 q21742 (by decide)
            have q21744 := mm_leL (mm_le c20743) q21742 q21743
            have q21745 := mm_ltL (h := 99) (mm_nle c14697) q21743 q21744 (by decide)
            have q21746 := mm_leL (mm_le c20743) q21744 q21745
            have q21747 := mm_ltL (h := 98) (mm_nle c14697) q21745 q21746 (by decide)
            have q21748 := mm_leL (mm_le c20743) q21746 q21747
            have q21749 := mm_ltL (h := 97) (mm_nle c14697) q21747 q21748 (by decide)
            have q21750 := mm_leL (mm_le c20743) q21748 q21749
            have q21751 := mm_ltL (h := 96) (mm_nle c14697) q21749 q21750 (by decide)
            have q21752 := mm_leL (mm_le c20743) q21750 q21751
            have q21753 := mm_ltL (h := 95) (mm_nle c14697) q21751 q21752 (by decide)
            have q21754 := mm_leL (mm_le c20743) q21752 q21753
            have q21755 := mm_ltL (h := 94) (mm_nle c14697) q21753 q21754 (by decide)
            have q21756 := mm_leL (mm_le c20743) q21754 q21755
            have q21757 := mm_ltL (h := 93) (mm_nle c14697) q21755 q21756 (by decide)
            have q21758 := mm_leL (mm_le c20743) q21756 q21757
            have q21759 := mm_ltL (h := 92) (mm_nle c14697) q21757 q21758 (by decide)
            have q21760 := mm_leL (mm_le c20743) q21758 q21759
            have q21761 := mm_ltL (h := 91) (mm_nle c14697) q21759 q21760 (by decide)
            have q21762 := mm_leL (mm_le c20743) q21760 q21761
            have q21763 := mm_ltL (h := 90) (mm_nle c14697) q21761 q21762 (by decide)
            have q21764 := mm_leL (mm_le c20743) q21762 q21763
            have q21765 := mm_ltL (h := 89) (mm_nle c14697) q21763 q21764 (by decide)
            have q21766 := mm_leL (mm_le c20743) q21764 q21765
            have q21767 := mm_ltL (h := 88) (mm_nle c14697) q21765 q21766 (by decide)
            have q21768 := mm_leL (mm_le c20743) q21766 q21767
            have q21769 := mm_ltL (h := 87) (mm_nle c14697) q21767 q21768 (by decide)
            have q21770 := mm_leL (mm_le c20743) q21768 q21769
            have q21771 := mm_ltL (h := 86) (mm_nle c14697) q21769 q21770 (by decide)
            have q21772 := mm_leL (mm_le c20743) q21770 q21771
            have q21773 := mm_ltL (h := 85) (mm_nle c14697) q21771 q21772 (by decide)
            have q21774 := mm_leL (mm_le c20743) q21772 q21773
            have q21775 := mm_ltL (h := 84) (mm_nle c14697) q21773 q21774 (by decide)
            have q21776 := mm_leL (mm_le c20743) q21774 q21775
            have q21777 := mm_ltL (h := 83) (mm_nle c14697) q21775 q21776 (by decide)
            have q21778 := mm_leL (mm_le c20743) q21776 q21777
            have q21779 := mm_ltL (h := 82) (mm_nle c14697) q21777 q21778 (by decide)
            have q21780 := mm_leL (mm_le c20743) q21778 q21779
            have q21781 := mm_ltL (h := 81) (mm_nle c14697) q21779 q21780 (by decide)
            have q21782 := mm_leL (mm_le c20743) q21780 q21781
            have q21783 := mm_ltL (h := 80) (mm_nle c14697) q21781 q21782 (by decide)
            have q21784 := mm_leL (mm_le c20743) q21782 q21783
            have q21785 := mm_ltL (h := 79) (mm_nle c14697) q21783 q21784 (by decide)
            have q21786 := mm_leL (mm_le c20743) q21784 q21785
            have q21787 := mm_ltL (h := 78) (mm_nle c14697) q21785 q21786 (by decide)
            have q21788 := mm_leL (mm_le c20743) q21786 q21787
            have q21789 := mm_ltL (h := 77) (mm_nle c14697) q21787 q21788 (by decide)
            have q21790 := mm_leL (mm_le c20743) q21788 q21789
            have q21791 := mm_ltL (h := 76) (mm_nle c14697) q21789 q21790 (by decide)
            have q21792 := mm_leL (mm_le c20743) q21790 q21791
            have q21793 := mm_ltL (h := 75) (mm_nle c14697) q21791 q21792 (by decide)
            have q21794 := mm_leL (mm_le c20743) q21792 q21793
            have q21795 := mm_ltL (h := 74) (mm_nle c14697) q21793 q21794 (by decide)
            have q21796 := mm_leL (mm_le c20743) q21794 q21795
            have q21797 := mm_ltL (h := 73) (mm_nle c14697) q21795 q21796 (by decide)
            have q21798 := mm_leL (mm_le c20743) q21796 q21797
            have q21799 := mm_ltL (h := 72) (mm_nle c14697) q21797 q21798 (by decide)
            have q21800 := mm_leL (mm_le c20743) q21798 q21799
            have q21801 := mm_ltL (h := 71) (mm_nle c14697) q21799 q21800 (by decide)
            have q21802 := mm_leL (mm_le c20743) q21800 q21801
            have q21803 := mm_ltL (h := 70) (mm_nle c14697) q21801 q21802 (by decide)
            have q21804 := mm_leL (mm_le c20743) q21802 q21803
            have q21805 := mm_ltL (h := 69) (mm_nle c14697) q21803 q21804 (by decide)
            have q21806 := mm_leL (mm_le c20743) q21804 q21805
            have q21807 := mm_ltL (h := 68) (mm_nle c14697) q21805 q21806 (by decide)
            have q21808 := mm_leL (mm_le c20743) q21806 q21807
            have q21809 := mm_ltL (h := 67) (mm_nle c14697) q21807 q21808 (by decide)
            have q21810 := mm_leL (mm_le c20743) q21808 q21809
            have q21811 := mm_ltL (h := 66) (mm_nle c14697) q21809 q21810 (by decide)
            have q21812 := mm_leL (mm_le c20743) q21810 q21811
            have q21813 := mm_ltL (h := 65) (mm_nle c14697) q21811 q21812 (by decide)
            have q21814 := mm_leL (mm_le c20743) q21812 q21813
            have q21815 := mm_ltL (h := 64) (mm_nle c14697) q21813 q21814 (by decide)
            have q21816 := mm_leL (mm_le c20743) q21814 q21815
            have q21817 := mm_ltL (h := 63) (mm_nle c14697) q21815 q21816 (by decide)
            have q21818 := mm_leL (mm_le c20743) q21816 q21817
            have q21819 := mm_ltL (h := 62) (mm_nle c14697) q21817 q21818 (by decide)
            have q21820 := mm_leL (mm_le c20743) q21818 q21819
            have q21821 := mm_ltL (h := 61) (mm_nle c14697) q21819 q21820 (by decide)
            have q21822 := mm_leL (mm_le c20743) q21820 q21821
            have q21823 := mm_ltL (h := 60) (mm_nle c14697) q21821 q21822 (by decide)
            have q21824 := mm_leL (mm_le c20743) q21822 q21823
            have q21825 := mm_ltL (h := 59) (mm_nle c14697) q21823 q21824 (by decide)
            have q21826 := mm_leL (mm_le c20743) q21824 q21825
            have q21827 := mm_ltL (h := 58) (mm_nle c14697) q21825 q21826 (by decide)
            have q21828 := mm_leL (mm_le c20743) q21826 q21827
            have q21829 := mm_ltL (h := 57) (mm_nle c14697) q21827 q21828 (by decide)
            have q21830 := mm_leL (mm_le c20743) q21828 q21829
            have q21831 := mm_ltL (h := 56) (mm_nle c14697) q21829 q21830 (by decide)
            have q21832 := mm_leL (mm_le c20743) q21830 q21831
            have q21833 := mm_ltL (h := 55) (mm_nle c14697) q21831 q21832 (by decide)
            have q21834 := mm_leL (mm_le c20743) q21832 q21833
            have q21835 := mm_ltL (h := 54) (mm_nle c14697) q21833 q21834 (by decide)
            have q21836 := mm_leL (mm_le c20743) q21834 q21835
            have q21837 := mm_ltL (h := 53) (mm_nle c14697) q21835 q21836 (by decide)
            have q21838 := mm_leL (mm_le c20743) q21836 q21837
            have q21839 := mm_ltL (h := 52) (mm_nle c14697) q21837 q21838 (by decide)
            have q21840 := mm_leL (mm_le c20743) q21838 q21839
            have q21841 := mm_ltL (h := 51) (mm_nle c14697) q21839 q21840 (by decide)
            have q21842 := mm_leL (mm_le c20743) q21840 q21841
            have q21843 := mm_ltL (h := 50) (mm_nle c14697) q21841 q21842 (by decide)
            have q21844 := mm_leL (mm_le c20743) q21842 q21843
            have q21845 := mm_ltL (h := 49) (mm_nle c14697) q21843 q21844 (by decide)
            have q21846 := mm_leL (mm_le c20743) q21844 q21845
            have q21847 := mm_ltL (h := 48) (mm_nle c14697) q21845 q21846 (by decide)
            have q21848 := mm_leL (mm_le c20743) q21846 q21847
            have q21849 := mm_ltL (h := 47) (mm_nle c14697) q21847 q21848 (by decide)
            have q21850 := mm_leL (mm_le c20743) q21848 q21849
            have q21851 := mm_ltL (h := 46) (mm_nle c14697) q21849 q21850 (by decide)
            have q21852 := mm_leL (mm_le c20743) q21850 q21851
            have q21853 := mm_ltL (h := 45) (mm_nle c14697) q21851 q21852 (by decide)
            have q21854 := mm_leL (mm_le c20743) q21852 q21853
            have q21855 := mm_ltL (h := 44) (mm_nle c14697) q21853 q21854 (by decide)
            have q21856 := mm_leL (mm_le c20743) q21854 q21855
            have q21857 := mm_ltL (h := 43) (mm_nle c14697) q21855 q21856 (by decide)
            have q21858 := mm_leL (mm_le c20743) q21856 q21857
            have q21859 := mm_ltL (h := 42) (mm_nle c14697) q21857 q21858 (by decide)
            have q21860 := mm_leL (mm_le c20743) q21858 q21859
            have q21861 := mm_ltL (h := 41) (mm_nle c14697) q21859 q21860 (by decide)
            have q21862 := mm_leL (mm_le c20743) q21860 q21861
            have q21863 := mm_ltL (h := 40) (mm_nle c14697) q21861 q21862 (by decide)
            have q21864 := mm_leL (mm_le c20743) q21862 q21863
            have q21865 := mm_ltL (h := 39) (mm_nle c14697) q21863 q21864 (by decide)
            have q21866 := mm_leL (mm_le c20743) q21864 q21865
            have q21867 := mm_ltL (h := 38) (mm_nle c14697) q21865 q21866 (by decide)
            have q21868 := mm_leL (mm_le c20743) q21866 q21867
            have q21869 := mm_ltL (h := 37) (mm_nle c14697) q21867 q21868 (by decide)
            have q21870 := mm_leL (mm_le c20743) q21868 q21869
            have q21871 := mm_ltL (h := 36) (mm_nle c14697) q21869 q21870 (by decide)
            have q21872 := mm_leL (mm_le c20743) q21870 q21871
            have q21873 := mm_ltL (h := 35) (mm_nle c14697) q21871 q21872 (by decide)
            have q21874 := mm_leL (mm_le c20743) q21872 q21873
            have q21875 := mm_ltL (h := 34) (mm_nle c14697) q21873 q21874 (by decide)
            have q21876 := mm_leL (mm_le c20743) q21874 q21875
            have q21877 := mm_ltL (h := 33) (mm_nle c14697) q21875 q21876 (by decide)
            have q21878 := mm_leL (mm_le c20743) q21876 q21877
            have q21879 := mm_ltL (h := 32) (mm_nle c14697) q21877 q21878 (by decide)
            have q21880 := mm_leL (mm_le c20743) q21878 q21879
            have q21881 := mm_ltL (h := 31) (mm_nle c14697) q21879 q21880 (by decide)
            have q21882 := mm_leL (mm_le c20743) q21880 q21881
            have q21883 := mm_ltL (h := 30) (mm_nle c14697) q21881 q21882 (by decide)
            have q21884 := mm_leL (mm_le c20743) q21882 q21883
            have q21885 := mm_ltL (h := 29) (mm_nle c14697) q21883 q21884 (by decide)
            have q21886 := mm_leL (mm_le c20743) q21884 q21885
            have q21887 := mm_ltL (h := 28) (mm_nle c14697) q21885 q21886 (by decide)
            have q21888 := mm_leL (mm_le c20743) q21886 q21887
            have q21889 := mm_ltL (h := 27) (mm_nle c14697) q21887 q21888 (by decide)
            have q21890 := mm_leL (mm_le c20743) q21888 q21889
            have q21891 := mm_ltL (h := 26) (mm_nle c14697) q21889 q21890 (by decide)
            have q21892 := mm_leL (mm_le c20743) q21890 q21891
            have q21893 := mm_ltL (h := 25) (mm_nle c14697) q21891 q21892 (by decide)
            have q21894 := mm_leL (mm_le c20743) q21892 q21893
            have q21895 := mm_ltL (h := 24) (mm_nle c14697) q21893 q21894 (by decide)
            have q21896 := mm_leL (mm_le c20743) q21894 q21895
            have q21897 := mm_ltL (h := 23) (mm_nle c14697) q21895 q21896 (by decide)
            have q21898 := mm_leL (mm_le c20743) q21896 q21897
            have q21899 := mm_ltL (h := 22) (mm_nle c14697) q21897 q21898 (by decide)
            have q21900 := mm_leL (mm_le c20743) q21898 q21899
            have q21901 := mm_ltL (h := 21) (mm_nle c14697) q21899 q21900 (by decide)
            have q21902 := mm_leL (mm_le c20743) q21900 q21901
            have q21903 := mm_ltL (h := 20) (mm_nle c14697) q21901 q21902 (by decide)
            have q21904 := mm_leL (mm_le c20743) q21902 q21903
            have q21905 := mm_ltL (h := 19) (mm_nle c14697) q21903 q21904 (by decide)
            have q21906 := mm_leL (mm_le c20743) q21904 q21905
            have q21907 := mm_ltL (h := 18) (mm_nle c14697) q21905 q21906 (by decide)
            have q21908 := mm_leL (mm_le c20743) q21906 q21907
            have q21909 := mm_ltL (h := 17) (mm_nle c14697) q21907 q21908 (by decide)
            have q21910 := mm_leL (mm_le c20743) q21908 q21909
            have q21911 := mm_ltL (h := 16) (mm_nle c14697) q21909 q21910 (by decide)
            have q21912 := mm_leL (mm_le c20743) q21910 q21911
            have q21913 := mm_ltL (h := 15) (mm_nle c14697) q21911 q21912 (by decide)
            have q21914 := mm_leL (mm_le c20743) q21912 q21913
            have q21915 := mm_ltL (h := 14) (mm_nle c14697) q21913 q21914 (by decide)
            have q21916 := mm_leL (mm_le c20743) q21914 q21915
            have q21917 := mm_ltL (h := 13) (mm_nle c14697) q21915 q21916 (by decide)
            have q21918 := mm_leL (mm_le c20743) q21916 q21917
            have q21919 := mm_ltL (h := 12) (mm_nle c14697) q21917 q21918 (by decide)
            have q21920 := mm_leL (mm_le c20743) q21918 q21919
            have q21921 := mm_ltL (h := 11) (mm_nle c14697) q21919 q21920 (by decide)
            have q21922 := mm_leL (mm_le c20743) q21920 q21921
            have q21923 := mm_ltL (h := 10) (mm_nle c14697) q21921 q21922 (by decide)
            have q21924 := mm_leL (mm_le c20743) q21922 q21923
            have q21925 := mm_ltL (h := 9) (mm_nle c14697) q21923 q21924 (by decide)
            have q21926 := mm_leL (mm_le c20743) q21924 q21925
            have q21927 := mm_ltL (h := 8) (mm_nle c14697) q21925 q21926 (by decide)
            have q21928 := mm_leL (mm_le c20743) q21926 q21927
            have q21929 := mm_ltL (h := 7) (mm_nle c14697) q21927 q21928 (by decide)
            have q21930 := mm_leL (mm_le c20743) q21928 q21929
            have q21931 := mm_ltL (h := 6) (mm_nle c14697) q21929 q21930 (by decide)
            have q21932 := mm_leL (mm_le c20743) q21930 q21931
            have q21933 := mm_ltL (h := 5) (mm_nle c14697) q21931 q21932 (by decide)
            have q21934 := mm_leL (mm_le c20743) q21932 q21933
            have q21935 := mm_ltL (h := 4) (mm_nle c14697) q21933 q21934 (by decide)
            have q21936 := mm_leL (mm_le c20743) q21934 q21935
            have q21937 := mm_ltL (h := 3) (mm_nle c14697) q21935 q21936 (by decide)
            have q21938 := mm_leL (mm_le c20743) q21936 q21937
            have q21939 := mm_ltL (h := 2) (mm_nle c14697) q21937 q21938 (by decide)
            have q21940 := mm_leL (mm_le c20743) q21938 q21939
            have q21941 := mm_ltL (h := 1) (mm_nle c14697) q21939 q21940 (by decide)
            have q21942 := mm_leL (mm_le c20743) q21940 q21941
            exact mm_no q21942 (by decide)
          · refine lv_iload_n hx hb dX7_nextToken_51 rfl (lv_at hl 0 rfl) ?_
            refine lv_iconst (v := 1) hx hb dX7_nextToken_52 (by decide) ?_
            refine lv_iadd hx hb dX7_nextToken_53 ?_
            refine lv_topi (fun v21943 ev21943 => ?_)
            have rv21943 : mm_rg v21943 1 600 := mm_add ev21943 q20736 mm_k1 (by decide) (by decide)
            have tv21943 := mm_addEc ev21943 q20736 mm_k1 (by decide) (k := 1) (by decide)
            refine lv_goto (tgt := 58) hx hb dX7_nextToken_54 (by decide) ?_
            refine lv_istore_n (lv' := [(2, .int v21943), (1, .int x5_1_14695), (0, .ref a_0)]) hx hb dX7_nextToken_58 rfl hl (by decide) rfl ?_
            clear hl
            clear ls
            intro ls hl
            refine lv_aload_n hx hb dX7_nextToken_59 rfl (lv_at hl 2 rfl) ?_
            refine va_get (D := G) (ci := 7) (v := .int v20741) (C := RX7) (T := TX7) (N := 8) hx hb hts (mm_i inlX7) hown hK.1 hP 2 rfl rfl 4 (by decide) (mm_h hts mm_w207) (fun _ h9 => h9) rfl dX7_nextToken_60 ?_
            refine lv_iconst (v := 2) hx hb dX7_nextToken_63 (by decide) ?_
            refine lv_icmp_eq (tgt := 75) hx hb dX7_nextToken_64 (by decide) (fun c21944 => ?_) (fun c21944 => ?_)
            · have q21945 := mm_eqI (lo := 2) (hi := 2) c21944 w20742 mm_k2 (by decide)
              refine lv_iconst (v := 1) hx hb dX7_nextToken_75 (by decide) ?_
              refine lv_goto (tgt := 80) hx hb dX7_nextToken_76 (by decide) ?_
              refine lv_istore_n (lv' := [(3, .int 1), (2, .int v21943), (1, .int x5_1_14695), (0, .ref a_0)]) hx hb dX7_nextToken_80 rfl hl (by decide) rfl ?_
              clear hl
              clear ls
              intro ls hl
              have L81_21969 : ∀ (n : Nat) (x81_2_21969 : Int32), mm_rg x81_2_21969 1 600 → (600 - x81_2_21969.toInt).toNat < n → ∀ (H : Heap) (locs : List Loc), va_P G vwCl [(a_1, .inr (9, [.ref a_2, .int i_0])), (a_2, .inl (cy 0, 600, .inl f_0)), (a_0, .inr (7, [.ref a_1, .ref a_3, .int i_1, .int i_2, .int v20741, .int i_4, .int i_5, .int i_6]))] H → va_D A [(a_1, .inr (9, [.ref a_2, .int i_0])), (a_2, .inl (cy 0, 600, .inl f_0)), (a_0, .inr (7, [.ref a_1, .ref a_3, .int i_1, .int i_2, .int v20741, .int i_4, .int i_5, .int i_6]))] → va_S A s.heap H locs → ∀ (ls : Array Slot), lv_has ls 4 [(3, .int 1), (2, .int x81_2_21969), (1, .int x5_1_14695), (0, .ref a_0)] → W p l e R s m args below meth c H locs 0 0 Q (F0 m 81 ls []) := by
                intro n
                induction n with
                | zero => intro x81_2_21969 rx81_2_21969 hm; exact absurd hm (Nat.not_lt_zero _)
                | succ n ih81 =>
                  intro x81_2_21969 rx81_2_21969 hm81 H locs hP hD hS ls hl
                  refine lv_iload_n hx hb dX7_nextToken_81 rfl (lv_at hl 0 rfl) ?_
                  refine lv_if_eq (tgt := 114) hx hb dX7_nextToken_82 (by decide) (fun c21971 => ?_) (fun c21971 => ?_)
                  · exact mm_eqN c21971.symm mm_k0 mm_k1 (by decide)
                  · refine lv_iload_n hx hb dX7_nextToken_85 rfl (lv_at hl 1 rfl) ?_
                    refine lv_aload_n hx hb dX7_nextToken_86 rfl (lv_at hl 3 rfl) ?_
                    refine va_get (D := G) (ci := 7) (v := .ref a_1) (C := RX7) (T := TX7) (N := 8) hx hb hts (mm_i inlX7) hown hK.1 hP 2 rfl rfl 0 (by decide) (mm_h hts mm_w67) (fun _ h9 => h9) rfl dX7_nextToken_87 ?_
                    refine va_get (D := G) (ci := 9) (v := .int i_0) (C := RX9) (T := TX9) (N := 2) hx hb hts (mm_i inlX9) hown hK.1 hP 0 rfl rfl 1 (by decide) (mm_h hts mm_w231) (fun _ h9 => h9) rfl dX7_nextToken_90 ?_
                    refine lv_icmp_ge (tgt := 114) hx hb dX7_nextToken_93 (by decide) (fun c21972 => ?_) (fun c21972 => ?_)
                    · refine lv_aload_n hx hb dX7_nextToken_114 rfl (lv_at hl 3 rfl) ?_
                      refine lv_iload_n hx hb dX7_nextToken_115 rfl (lv_at hl 2 rfl) ?_
                      refine va_put (D := G) (ci := 7) (v := .int x5_1_14695) (ty := tyX7 5) (C := RX7) (T := TX7) (N := 8) hx hb hts (mm_i inlX7) tyX7 tyX7_ok nmX7 hown hK.1 hP hD hS 2 rfl rfl 5 (by decide) (mm_h hts mm_w232) (fun _ h9 => h9) rfl (tyX7_ok 5 (by decide)) rfl rfl (Nat.le_of_ble_eq_true rfl) dX7_nextToken_116 ?_
                      clear hP hD hS
                      clear H locs
                      intro H locs (hP : va_P G vwCl [(a_1, .inr (9, [.ref a_2, .int i_0])), (a_2, .inl (cy 0, 600, .inl f_0)), (a_0, .inr (7, [.ref a_1, .ref a_3, .int i_1, .int i_2, .int v20741, .int x5_1_14695, .int i_5, .int i_6]))] H) (hD : va_D A [(a_1, .inr (9, [.ref a_2, .int i_0])), (a_2, .inl (cy 0, 600, .inl f_0)), (a_0, .inr (7, [.ref a_1, .ref a_3, .int i_1, .int i_2, .int v20741, .int x5_1_14695, .int i_5, .int i_6]))]) hS
                      refine lv_aload_n hx hb dX7_nextToken_119 rfl (lv_at hl 3 rfl) ?_
                      refine lv_iload_n hx hb dX7_nextToken_120 rfl (lv_at hl 1 rfl) ?_
                      refine va_put (D := G) (ci := 7) (v := .int x81_2_21969) (ty := tyX7 6) (C := RX7) (T := TX7) (N := 8) hx hb hts (mm_i inlX7) tyX7 tyX7_ok nmX7 hown hK.1 hP hD hS 2 rfl rfl 6 (by decide) (mm_h hts mm_w206) (fun _ h9 => h9) rfl (tyX7_ok 6 (by decide)) rfl rfl (Nat.le_of_ble_eq_true rfl) dX7_nextToken_121 ?_
                      clear hP hD hS
                      clear H locs
                      intro H locs (hP : va_P G vwCl [(a_1, .inr (9, [.ref a_2, .int i_0])), (a_2, .inl (cy 0, 600, .inl f_0)), (a_0, .inr (7, [.ref a_1, .ref a_3, .int i_1, .int i_2, .int v20741, .int x5_1_14695, .int x81_2_21969, .int i_6]))] H) (hD : va_D A [(a_1, .inr (9, [.ref a_2, .int i_0])), (a_2, .inl (cy 0, 600, .inl f_0)), (a_0, .inr (7, [.ref a_1, .ref a_3, .int i_1, .int i_2, .int v20741, .int x5_1_14695, .int x81_2_21969, .int i_6]))]) hS
                      refine lv_aload_n hx hb dX7_nextToken_124 rfl (lv_at hl 3 rfl) ?_
                      refine lv_aload_n hx hb dX7_nextToken_125 rfl (lv_at hl 3 rfl) ?_
                      refine va_get (D := G) (ci := 7) (v := .int v20741) (C := RX7) (T := TX7) (N := 8) hx hb hts (mm_i inlX7) hown hK.1 hP 2 rfl rfl 4 (by decide) (mm_h hts mm_w207) (fun _ h9 => h9) rfl dX7_nextToken_126 ?_
                      refine lv_iconst (v := 3) hx hb dX7_nextToken_129 (by decide) ?_
                      refine lv_icmp_ne (tgt := 140) hx hb dX7_nextToken_130 (by decide) (fun c21973 => ?_) (fun c21973 => ?_)
                      · refine lv_iconst (v := 0) hx hb dX7_nextToken_140 (by decide) ?_
                        refine va_put (D := G) (ci := 7) (v := .int 0) (ty := tyX7 7) (C := RX7) (T := TX7) (N := 8) hx hb hts (mm_i inlX7) tyX7 tyX7_ok nmX7 hown hK.1 hP hD hS 2 rfl rfl 7 (by decide) (mm_h hts mm_w233) (fun _ h9 => h9) rfl (tyX7_ok 7 (by decide)) rfl rfl (Nat.le_of_ble_eq_true rfl) dX7_nextToken_141 ?_
                        clear hP hD hS
                        clear H locs
                        intro H locs (hP : va_P G vwCl [(a_1, .inr (9, [.ref a_2, .int i_0])), (a_2, .inl (cy 0, 600, .inl f_0)), (a_0, .inr (7, [.ref a_1, .ref a_3, .int i_1, .int i_2, .int v20741, .int x5_1_14695, .int x81_2_21969, .int 0]))] H) (hD : va_D A [(a_1, .inr (9, [.ref a_2, .int i_0])), (a_2, .inl (cy 0, 600, .inl f_0)), (a_0, .inr (7, [.ref a_1, .ref a_3, .int i_1, .int i_2, .int v20741, .int x5_1_14695, .int x81_2_21969, .int 0]))]) hS
                        subst hAe
                        rw [hQ]
                        exact W.vret hx hb hr (fun t ht hW => ⟨⟨(v20741, x5_1_14695, x81_2_21969, 0), rfl, ⟨(mm_wk q21945 (by decide)), (mm_wk q20736 (by decide)), (mm_wk rx81_2_21969 (by decide))⟩, by rw [ht]; exact hP, hK.warm hW, hD⟩, hS.F ht⟩) hS.2.2 dX7_nextToken_144
                      · exact mm_eqN c21973 q21945 mm_k3 (by decide)
                    · have q21974 := mm_ltL (h := 599) (mm_nle c21972) rx81_2_21969 q20737 (by decide)
                      have q21975 := mm_ltR (lo := 2) (mm_nle c21972) rx81_2_21969 q20737 (by decide)
                      refine lv_aload_n hx hb dX7_nextToken_96 rfl (lv_at hl 3 rfl) ?_
                      refine lv_iload_n hx hb dX7_nextToken_97 rfl (lv_at hl 1 rfl) ?_
                      refine mm_finir (va_runV (As := [.int x81_2_21969]) (rest := []) ⟨hx, hb, hml, hown, hts⟩ (K7_X7_partAt l G cy H.size a_0 x81_2_21969 a_1 a_2 i_0 f_0 a_3 i_1 i_2 v20741 i_4 i_5 i_6 (mm_wk q21975 (by decide)) h1) (cwV 1 hts (mm_gV mm_w234 mm_w235 mm_w236 mm_w19 mm_w237) rfl rfl rfl hd_X7_partAt ⟨by rw [hRf]; exact Nat.le_of_ble_eq_true rfl, by rw [hRl]; exact Nat.le_of_ble_eq_true rfl⟩) (mm_preV hK hZ hS hA hP hD [0, 1, 2] rfl rfl 2 rfl rfl rfl) rfl rfl hl.1 rfl (lv_room (Nat.le_of_ble_eq_true rfl)) dX7_nextToken_98 ⟨by rw [hRc]; exact Nat.le_of_ble_eq_true rfl, by rw [hRs]; exact Nat.le_of_ble_eq_true rfl⟩) hP hD hS hA [0, 1, 2] rfl (fun _ => rfl) ?_
                      clear hP hD hS
                      clear H locs
                      intro v21976 _u H locs hw hP hD hS
                      have w21977 := hw
                      refine lv_aload_n hx hb dX7_nextToken_101 rfl (lv_at hl 3 rfl) ?_
                      refine va_get (D := G) (ci := 7) (v := .int v20741) (C := RX7) (T := TX7) (N := 8) hx hb hts (mm_i inlX7) hown hK.1 hP 2 rfl rfl 4 (by decide) (mm_h hts mm_w207) (fun _ h9 => h9) rfl dX7_nextToken_102 ?_
                      refine lv_icmp_ne (tgt := 114) hx hb dX7_nextToken_105 (by decide) (fun c21978 => ?_) (fun c21978 => ?_)
                      · refine lv_aload_n hx hb dX7_nextToken_114 rfl (lv_at hl 3 rfl) ?_
                        refine lv_iload_n hx hb dX7_nextToken_115 rfl (lv_at hl 2 rfl) ?_
                        refine va_put (D := G) (ci := 7) (v := .int x5_1_14695) (ty := tyX7 5) (C := RX7) (T := TX7) (N := 8) hx hb hts (mm_i inlX7) tyX7 tyX7_ok nmX7 hown hK.1 hP hD hS 2 rfl rfl 5 (by decide) (mm_h hts mm_w232) (fun _ h9 => h9) rfl (tyX7_ok 5 (by decide)) rfl rfl (Nat.le_of_ble_eq_true rfl) dX7_nextToken_116 ?_
                        clear hP hD hS
                        clear H locs
                        intro H locs (hP : va_P G vwCl [(a_1, .inr (9, [.ref a_2, .int i_0])), (a_2, .inl (cy 0, 600, .inl f_0)), (a_0, .inr (7, [.ref a_1, .ref a_3, .int i_1, .int i_2, .int v20741, .int x5_1_14695, .int i_5, .int i_6]))] H) (hD : va_D A [(a_1, .inr (9, [.ref a_2, .int i_0])), (a_2, .inl (cy 0, 600, .inl f_0)), (a_0, .inr (7, [.ref a_1, .ref a_3, .int i_1, .int i_2, .int v20741, .int x5_1_14695, .int i_5, .int i_6]))]) hS
                        refine lv_aload_n hx hb dX7_nextToken_119 rfl (lv_at hl 3 rfl) ?_
                        refine lv_iload_n hx hb dX7_nextToken_120 rfl (lv_at hl 1 rfl) ?_
                        refine va_put (D := G) (ci := 7) (v := .int x81_2_21969) (ty := tyX7 6) (C := RX7) (T := TX7) (N := 8) hx hb hts (mm_i inlX7) tyX7 tyX7_ok nmX7 hown hK.1 hP hD hS 2 rfl rfl 6 (by decide) (mm_h hts mm_w206) (fun _ h9 => h9) rfl (tyX7_ok 6 (by decide)) rfl rfl (Nat.le_of_ble_eq_true rfl) dX7_nextToken_121 ?_
                        clear hP hD hS
                        clear H locs
                        intro H locs (hP : va_P G vwCl [(a_1, .inr (9, [.ref a_2, .int i_0])), (a_2, .inl (cy 0, 600, .inl f_0)), (a_0, .inr (7, [.ref a_1, .ref a_3, .int i_1, .int i_2, .int v20741, .int x5_1_14695, .int x81_2_21969, .int i_6]))] H) (hD : va_D A [(a_1, .inr (9, [.ref a_2, .int i_0])), (a_2, .inl (cy 0, 600, .inl f_0)), (a_0, .inr (7, [.ref a_1, .ref a_3, .int i_1, .int i_2, .int v20741, .int x5_1_14695, .int x81_2_21969, .int i_6]))]) hS
                        refine lv_aload_n hx hb dX7_nextToken_124 rfl (lv_at hl 3 rfl) ?_
                        refine lv_aload_n hx hb dX7_nextToken_125 rfl (lv_at hl 3 rfl) ?_
                        refine va_get (D := G) (ci := 7) (v := .int v20741) (C := RX7) (T := TX7) (N := 8) hx hb hts (mm_i inlX7) hown hK.1 hP 2 rfl rfl 4 (by decide) (mm_h hts mm_w207) (fun _ h9 => h9) rfl dX7_nextToken_126 ?_
                        refine lv_iconst (v := 3) hx hb dX7_nextToken_129 (by decide) ?_
                        refine lv_icmp_ne (tgt := 140) hx hb dX7_nextToken_130 (by decide) (fun c21979 => ?_) (fun c21979 => ?_)
                        · refine lv_iconst (v := 0) hx hb dX7_nextToken_140 (by decide) ?_
                          refine va_put (D := G) (ci := 7) (v := .int 0) (ty := tyX7 7) (C := RX7) (T := TX7) (N := 8) hx hb hts (mm_i inlX7) tyX7 tyX7_ok nmX7 hown hK.1 hP hD hS 2 rfl rfl 7 (by decide) (mm_h hts mm_w233) (fun _ h9 => h9) rfl (tyX7_ok 7 (by decide)) rfl rfl (Nat.le_of_ble_eq_true rfl) dX7_nextToken_141 ?_
                          clear hP hD hS
                          clear H locs
                          intro H locs (hP : va_P G vwCl [(a_1, .inr (9, [.ref a_2, .int i_0])), (a_2, .inl (cy 0, 600, .inl f_0)), (a_0, .inr (7, [.ref a_1, .ref a_3, .int i_1, .int i_2, .int v20741, .int x5_1_14695, .int x81_2_21969, .int 0]))] H) (hD : va_D A [(a_1, .inr (9, [.ref a_2, .int i_0])), (a_2, .inl (cy 0, 600, .inl f_0)), (a_0, .inr (7, [.ref a_1, .ref a_3, .int i_1, .int i_2, .int v20741, .int x5_1_14695, .int x81_2_21969, .int 0]))]) hS
                          subst hAe
                          rw [hQ]
                          exact W.vret hx hb hr (fun t ht hW => ⟨⟨(v20741, x5_1_14695, x81_2_21969, 0), rfl, ⟨(mm_wk q21945 (by decide)), (mm_wk q20736 (by decide)), (mm_wk q21974 (by decide))⟩, by rw [ht]; exact hP, hK.warm hW, hD⟩, hS.F ht⟩) hS.2.2 dX7_nextToken_144
                        · exact mm_eqN c21979 q21945 mm_k3 (by decide)
                      · have q21980 := mm_eqI (lo := 2) (hi := 2) c21978 w21977 q21945 (by decide)
                        obtain ⟨v21981, ev21981⟩ : ∃ y : Int32, y = x81_2_21969 + 1 := ⟨_, rfl⟩
                        refine lv_iinc (v := v21981) (lv' := [(2, .int v21981), (3, .int 1), (1, .int x5_1_14695), (0, .ref a_0)]) hx hb dX7_nextToken_108 hl (k := 1) rfl (by rw [ev21981]; rfl) (by decide) rfl ?_
                        clear hl
                        clear ls
                        intro ls hl
                        have rv21981 : mm_rg v21981 2 600 := mm_add ev21981 q21974 mm_k1 (by decide) (by decide)
                        have tv21981 := mm_addEc ev21981 q21974 mm_k1 (by decide) (k := 1) (by decide)
                        refine lv_goto (tgt := 81) hx hb dX7_nextToken_111 (by decide) ?_
                        exact ih81 v21981 (mm_wk rv21981 (by decide)) (mm_mu hm81 tv21981 (by decide) (rv21981).2 (by decide)) H locs hP hD hS ls (lv_sub hl [1, 0, 2, 3] rfl)
              exact L81_21969 _ v21943 rv21943 (Nat.lt_succ_self _) H locs hP hD hS ls (lv_sub hl [0, 1, 2, 3] rfl)
            · refine lv_aload_n hx hb dX7_nextToken_67 rfl (lv_at hl 2 rfl) ?_
              refine va_get (D := G) (ci := 7) (v := .int v20741) (C := RX7) (T := TX7) (N := 8) hx hb hts (mm_i inlX7) hown hK.1 hP 2 rfl rfl 4 (by decide) (mm_h hts mm_w207) (fun _ h9 => h9) rfl dX7_nextToken_68 ?_
              refine lv_iconst (v := 3) hx hb dX7_nextToken_71 (by decide) ?_
              refine lv_icmp_ne (tgt := 79) hx hb dX7_nextToken_72 (by decide) (fun c21982 => ?_) (fun c21982 => ?_)
              · refine lv_iconst (v := 0) hx hb dX7_nextToken_79 (by decide) ?_
                refine lv_istore_n (lv' := [(3, .int 0), (2, .int v21943), (1, .int x5_1_14695), (0, .ref a_0)]) hx hb dX7_nextToken_80 rfl hl (by decide) rfl ?_
                clear hl
                clear ls
                intro ls hl
                refine lv_iload_n hx hb dX7_nextToken_81 rfl (lv_at hl 0 rfl) ?_
                refine lv_if_eq (tgt := 114) hx hb dX7_nextToken_82 (by decide) (fun c21988 => ?_) (fun c21988 => ?_)
                · refine lv_aload_n hx hb dX7_nextToken_114 rfl (lv_at hl 3 rfl) ?_
                  refine lv_iload_n hx hb dX7_nextToken_115 rfl (lv_at hl 2 rfl) ?_
                  refine va_put (D := G) (ci := 7) (v := .int x5_1_14695) (ty := tyX7 5) (C := RX7) (T := TX7) (N := 8) hx hb hts (mm_i inlX7) tyX7 tyX7_ok nmX7 hown hK.1 hP hD hS 2 rfl rfl 5 (by decide) (mm_h hts mm_w232) (fun _ h9 => h9) rfl (tyX7_ok 5 (by decide)) rfl rfl (Nat.le_of_ble_eq_true rfl) dX7_nextToken_116 ?_
                  clear hP hD hS
                  clear H locs
                  intro H locs (hP : va_P G vwCl [(a_1, .inr (9, [.ref a_2, .int i_0])), (a_2, .inl (cy 0, 600, .inl f_0)), (a_0, .inr (7, [.ref a_1, .ref a_3, .int i_1, .int i_2, .int v20741, .int x5_1_14695, .int i_5, .int i_6]))] H) (hD : va_D A [(a_1, .inr (9, [.ref a_2, .int i_0])), (a_2, .inl (cy 0, 600, .inl f_0)), (a_0, .inr (7, [.ref a_1, .ref a_3, .int i_1, .int i_2, .int v20741, .int x5_1_14695, .int i_5, .int i_6]))]) hS
                  refine lv_aload_n hx hb dX7_nextToken_119 rfl (lv_at hl 3 rfl) ?_
                  refine lv_iload_n hx hb dX7_nextToken_120 rfl (lv_at hl 1 rfl) ?_
                  refine va_put (D := G) (ci := 7) (v := .int v21943) (ty := tyX7 6) (C := RX7) (T := TX7) (N := 8) hx hb hts (mm_i inlX7) tyX7 tyX7_ok nmX7 hown hK.1 hP hD hS 2 rfl rfl 6 (by decide) (mm_h hts mm_w206) (fun _ h9 => h9) rfl (tyX7_ok 6 (by decide)) rfl rfl (Nat.le_of_ble_eq_true rfl) dX7_nextToken_121 ?_
                  clear hP hD hS
                  clear H locs
                  intro H locs (hP : va_P G vwCl [(a_1, .inr (9, [.ref a_2, .int i_0])), (a_2, .inl (cy 0, 600, .inl f_0)), (a_0, .inr (7, [.ref a_1, .ref a_3, .int i_1, .int i_2, .int v20741, .int x5_1_14695, .int v21943, .int i_6]))] H) (hD : va_D A [(a_1, .inr (9, [.ref a_2, .int i_0])), (a_2, .inl (cy 0, 600, .inl f_0)), (a_0, .inr (7, [.ref a_1, .ref a_3, .int i_1, .int i_2, .int v20741, .int x5_1_14695, .int v21943, .int i_6]))]) hS
                  refine lv_aload_n hx hb dX7_nextToken_124 rfl (lv_at hl 3 rfl) ?_
                  refine lv_aload_n hx hb dX7_nextToken_125 rfl (lv_at hl 3 rfl) ?_
                  refine va_get (D := G) (ci := 7) (v := .int v20741) (C := RX7) (T := TX7) (N := 8) hx hb hts (mm_i inlX7) hown hK.1 hP 2 rfl rfl 4 (by decide) (mm_h hts mm_w207) (fun _ h9 => h9) rfl dX7_nextToken_126 ?_
                  refine lv_iconst (v := 3) hx hb dX7_nextToken_129 (by decide) ?_
                  refine lv_icmp_ne (tgt := 140) hx hb dX7_nextToken_130 (by decide) (fun c21989 => ?_) (fun c21989 => ?_)
                  · refine lv_iconst (v := 0) hx hb dX7_nextToken_140 (by decide) ?_
                    refine va_put (D := G) (ci := 7) (v := .int 0) (ty := tyX7 7) (C := RX7) (T := TX7) (N := 8) hx hb hts (mm_i inlX7) tyX7 tyX7_ok nmX7 hown hK.1 hP hD hS 2 rfl rfl 7 (by decide) (mm_h hts mm_w233) (fun _ h9 => h9) rfl (tyX7_ok 7 (by decide)) rfl rfl (Nat.le_of_ble_eq_true rfl) dX7_nextToken_141 ?_
                    clear hP hD hS
                    clear H locs
                    intro H locs (hP : va_P G vwCl [(a_1, .inr (9, [.ref a_2, .int i_0])), (a_2, .inl (cy 0, 600, .inl f_0)), (a_0, .inr (7, [.ref a_1, .ref a_3, .int i_1, .int i_2, .int v20741, .int x5_1_14695, .int v21943, .int 0]))] H) (hD : va_D A [(a_1, .inr (9, [.ref a_2, .int i_0])), (a_2, .inl (cy 0, 600, .inl f_0)), (a_0, .inr (7, [.ref a_1, .ref a_3, .int i_1, .int i_2, .int v20741, .int x5_1_14695, .int v21943, .int 0]))]) hS
                    subst hAe
                    rw [hQ]
                    exact W.vret hx hb hr (fun t ht hW => ⟨⟨(v20741, x5_1_14695, v21943, 0), rfl, ⟨w20742, (mm_wk q20736 (by decide)), (mm_wk rv21943 (by decide))⟩, by rw [ht]; exact hP, hK.warm hW, hD⟩, hS.F ht⟩) hS.2.2 dX7_nextToken_144
                  · have q21990 := mm_eqI (lo := 3) (hi := 3) c21989 w20742 mm_k3 (by decide)
                    have q21991 := mm_neL (lo := 4) (mm_ne c21982) q21990 mm_k3 (by decide) (by decide)
                    exact mm_no q21991 (by decide)
                · have q21992 := mm_neL (lo := 1) (mm_ne c21988) mm_k0 mm_k0 (by decide) (by decide)
                  exact mm_no q21992 (by decide)
              · have q21993 := mm_eqI (lo := 3) (hi := 3) c21982 w20742 mm_k3 (by decide)
                refine lv_iconst (v := 1) hx hb dX7_nextToken_75 (by decide) ?_
                refine lv_goto (tgt := 80) hx hb dX7_nextToken_76 (by decide) ?_
                refine lv_istore_n (lv' := [(3, .int 1), (2, .int v21943), (1, .int x5_1_14695), (0, .ref a_0)]) hx hb dX7_nextToken_80 rfl hl (by decide) rfl ?_
                clear hl
                clear ls
                intro ls hl
                have L81_22025 : ∀ (n : Nat) (x81_2_22025 : Int32), mm_rg x81_2_22025 1 600 → (600 - x81_2_22025.toInt).toNat < n → ∀ (H : Heap) (locs : List Loc), va_P G vwCl [(a_1, .inr (9, [.ref a_2, .int i_0])), (a_2, .inl (cy 0, 600, .inl f_0)), (a_0, .inr (7, [.ref a_1, .ref a_3, .int i_1, .int i_2, .int v20741, .int i_4, .int i_5, .int i_6]))] H → va_D A [(a_1, .inr (9, [.ref a_2, .int i_0])), (a_2, .inl (cy 0, 600, .inl f_0)), (a_0, .inr (7, [.ref a_1, .ref a_3, .int i_1, .int i_2, .int v20741, .int i_4, .int i_5, .int i_6]))] → va_S A s.heap H locs → ∀ (ls : Array Slot), lv_has ls 4 [(3, .int 1), (2, .int x81_2_22025), (1, .int x5_1_14695), (0, .ref a_0)] → W p l e R s m args below meth c H locs 0 0 Q (F0 m 81 ls []) := by
                  intro n
                  induction n with
                  | zero => intro x81_2_22025 rx81_2_22025 hm; exact absurd hm (Nat.not_lt_zero _)
                  | succ n ih81 =>
                    intro x81_2_22025 rx81_2_22025 hm81 H locs hP hD hS ls hl
                    refine lv_iload_n hx hb dX7_nextToken_81 rfl (lv_at hl 0 rfl) ?_
                    refine lv_if_eq (tgt := 114) hx hb dX7_nextToken_82 (by decide) (fun c22027 => ?_) (fun c22027 => ?_)
                    · exact mm_eqN c22027.symm mm_k0 mm_k1 (by decide)
                    · refine lv_iload_n hx hb dX7_nextToken_85 rfl (lv_at hl 1 rfl) ?_
                      refine lv_aload_n hx hb dX7_nextToken_86 rfl (lv_at hl 3 rfl) ?_
                      refine va_get (D := G) (ci := 7) (v := .ref a_1) (C := RX7) (T := TX7) (N := 8) hx hb hts (mm_i inlX7) hown hK.1 hP 2 rfl rfl 0 (by decide) (mm_h hts mm_w67) (fun _ h9 => h9) rfl dX7_nextToken_87 ?_
                      refine va_get (D := G) (ci := 9) (v := .int i_0) (C := RX9) (T := TX9) (N := 2) hx hb hts (mm_i inlX9) hown hK.1 hP 0 rfl rfl 1 (by decide) (mm_h hts mm_w231) (fun _ h9 => h9) rfl dX7_nextToken_90 ?_
                      refine lv_icmp_ge (tgt := 114) hx hb dX7_nextToken_93 (by decide) (fun c22028 => ?_) (fun c22028 => ?_)
                      · refine lv_aload_n hx hb dX7_nextToken_114 rfl (lv_at hl 3 rfl) ?_
                        refine lv_iload_n hx hb dX7_nextToken_115 rfl (lv_at hl 2 rfl) ?_
                        refine va_put (D := G) (ci := 7) (v := .int x5_1_14695) (ty := tyX7 5) (C := RX7) (T := TX7) (N := 8) hx hb hts (mm_i inlX7) tyX7 tyX7_ok nmX7 hown hK.1 hP hD hS 2 rfl rfl 5 (by decide) (mm_h hts mm_w232) (fun _ h9 => h9) rfl (tyX7_ok 5 (by decide)) rfl rfl (Nat.le_of_ble_eq_true rfl) dX7_nextToken_116 ?_
                        clear hP hD hS
                        clear H locs
                        intro H locs (hP : va_P G vwCl [(a_1, .inr (9, [.ref a_2, .int i_0])), (a_2, .inl (cy 0, 600, .inl f_0)), (a_0, .inr (7, [.ref a_1, .ref a_3, .int i_1, .int i_2, .int v20741, .int x5_1_14695, .int i_5, .int i_6]))] H) (hD : va_D A [(a_1, .inr (9, [.ref a_2, .int i_0])), (a_2, .inl (cy 0, 600, .inl f_0)), (a_0, .inr (7, [.ref a_1, .ref a_3, .int i_1, .int i_2, .int v20741, .int x5_1_14695, .int i_5, .int i_6]))]) hS
                        refine lv_aload_n hx hb dX7_nextToken_119 rfl (lv_at hl 3 rfl) ?_
                        refine lv_iload_n hx hb dX7_nextToken_120 rfl (lv_at hl 1 rfl) ?_
                        refine va_put (D := G) (ci := 7) (v := .int x81_2_22025) (ty := tyX7 6) (C := RX7) (T := TX7) (N := 8) hx hb hts (mm_i inlX7) tyX7 tyX7_ok nmX7 hown hK.1 hP hD hS 2 rfl rfl 6 (by decide) (mm_h hts mm_w206) (fun _ h9 => h9) rfl (tyX7_ok 6 (by decide)) rfl rfl (Nat.le_of_ble_eq_true rfl) dX7_nextToken_121 ?_
                        clear hP hD hS
                        clear H locs
                        intro H locs (hP : va_P G vwCl [(a_1, .inr (9, [.ref a_2, .int i_0])), (a_2, .inl (cy 0, 600, .inl f_0)), (a_0, .inr (7, [.ref a_1, .ref a_3, .int i_1, .int i_2, .int v20741, .int x5_1_14695, .int x81_2_22025, .int i_6]))] H) (hD : va_D A [(a_1, .inr (9, [.ref a_2, .int i_0])), (a_2, .inl (cy 0, 600, .inl f_0)), (a_0, .inr (7, [.ref a_1, .ref a_3, .int i_1, .int i_2, .int v20741, .int x5_1_14695, .int x81_2_22025, .int i_6]))]) hS
                        refine lv_aload_n hx hb dX7_nextToken_124 rfl (lv_at hl 3 rfl) ?_
                        refine lv_aload_n hx hb dX7_nextToken_125 rfl (lv_at hl 3 rfl) ?_
                        refine va_get (D := G) (ci := 7) (v := .int v20741) (C := RX7) (T := TX7) (N := 8) hx hb hts (mm_i inlX7) hown hK.1 hP 2 rfl rfl 4 (by decide) (mm_h hts mm_w207) (fun _ h9 => h9) rfl dX7_nextToken_126 ?_
                        refine lv_iconst (v := 3) hx hb dX7_nextToken_129 (by decide) ?_
                        refine lv_icmp_ne (tgt := 140) hx hb dX7_nextToken_130 (by decide) (fun c22029 => ?_) (fun c22029 => ?_)
                        · have q22030 := mm_neL (lo := 4) (mm_ne c22029) q21993 mm_k3 (by decide) (by decide)
                          exact mm_no q22030 (by decide)
                        · refine lv_aload_n hx hb dX7_nextToken_133 rfl (lv_at hl 3 rfl) ?_
                          refine mm_finir (va_runV (As := []) (rest := [.ref a_0]) ⟨hx, hb, hml, hown, hts⟩ (K8_X7_numberTold l G cy H.size a_0 a_1 a_2 i_0 f_0 a_3 i_1 i_2 v20741 x5_1_14695 x81_2_22025 i_6 h1 (mm_wk q20736 (by decide)) (mm_wk rx81_2_22025 (by decide))) (cwV 0 hts (mm_gV mm_w239 mm_w240 mm_w241 mm_w19 mm_w242) rfl rfl rfl hd_X7_numberTold ⟨by rw [hRf]; exact Nat.le_of_ble_eq_true rfl, by rw [hRl]; exact Nat.le_of_ble_eq_true rfl⟩) (mm_preV hK hZ hS hA hP hD [0, 1, 2] rfl rfl 2 rfl rfl rfl) rfl rfl hl.1 rfl (lv_room (Nat.le_of_ble_eq_true rfl)) dX7_nextToken_134 ⟨by rw [hRc]; exact Nat.le_of_ble_eq_true rfl, by rw [hRs]; exact Nat.le_of_ble_eq_true rfl⟩) hP hD hS hA [0, 1, 2] rfl (fun _ => rfl) ?_
                          clear hP hD hS
                          clear H locs
                          intro v22031 _u H locs hw hP hD hS
                          refine lv_goto (tgt := 141) hx hb dX7_nextToken_137 (by decide) ?_
                          refine va_put (D := G) (ci := 7) (v := .int v22031) (ty := tyX7 7) (C := RX7) (T := TX7) (N := 8) hx hb hts (mm_i inlX7) tyX7 tyX7_ok nmX7 hown hK.1 hP hD hS 2 rfl rfl 7 (by decide) (mm_h hts mm_w233) (fun _ h9 => h9) rfl (tyX7_ok 7 (by decide)) rfl rfl (Nat.le_of_ble_eq_true rfl) dX7_nextToken_141 ?_
                          clear hP hD hS
                          clear H locs
                          intro H locs (hP : va_P G vwCl [(a_1, .inr (9, [.ref a_2, .int i_0])), (a_2, .inl (cy 0, 600, .inl f_0)), (a_0, .inr (7, [.ref a_1, .ref a_3, .int i_1, .int i_2, .int v20741, .int x5_1_14695, .int x81_2_22025, .int v22031]))] H) (hD : va_D A [(a_1, .inr (9, [.ref a_2, .int i_0])), (a_2, .inl (cy 0, 600, .inl f_0)), (a_0, .inr (7, [.ref a_1, .ref a_3, .int i_1, .int i_2, .int v20741, .int x5_1_14695, .int x81_2_22025, .int v22031]))]) hS
                          subst hAe
                          rw [hQ]
                          exact W.vret hx hb hr (fun t ht hW => ⟨⟨(v20741, x5_1_14695, x81_2_22025, v22031), rfl, ⟨(mm_wk q21993 (by decide)), (mm_wk q20736 (by decide)), (mm_wk rx81_2_22025 (by decide))⟩, by rw [ht]; exact hP, hK.warm hW, hD⟩, hS.F ht⟩) hS.2.2 dX7_nextToken_144
                      · have q22032 := mm_ltL (h := 599) (mm_nle c22028) rx81_2_22025 q20737 (by decide)
                        have q22033 := mm_ltR (lo := 2) (mm_nle c22028) rx81_2_22025 q20737 (by decide)
                        refine lv_aload_n hx hb dX7_nextToken_96 rfl (lv_at hl 3 rfl) ?_
                        refine lv_iload_n hx hb dX7_nextToken_97 rfl (lv_at hl 1 rfl) ?_
                        refine mm_finir (va_runV (As := [.int x81_2_22025]) (rest := []) ⟨hx, hb, hml, hown, hts⟩ (K7_X7_partAt l G cy H.size a_0 x81_2_22025 a_1 a_2 i_0 f_0 a_3 i_1 i_2 v20741 i_4 i_5 i_6 (mm_wk q22033 (by decide)) h1) (cwV 1 hts (mm_gV mm_w234 mm_w235 mm_w236 mm_w19 mm_w237) rfl rfl rfl hd_X7_partAt ⟨by rw [hRf]; exact Nat.le_of_ble_eq_true rfl, by rw [hRl]; exact Nat.le_of_ble_eq_true rfl⟩) (mm_preV hK hZ hS hA hP hD [0, 1, 2] rfl rfl 2 rfl rfl rfl) rfl rfl hl.1 rfl (lv_room (Nat.le_of_ble_eq_true rfl)) dX7_nextToken_98 ⟨by rw [hRc]; exact Nat.le_of_ble_eq_true rfl, by rw [hRs]; exact Nat.le_of_ble_eq_true rfl⟩) hP hD hS hA [0, 1, 2] rfl (fun _ => rfl) ?_
                        clear hP hD hS
                        clear H locs
                        intro v22034 _u H locs hw hP hD hS
                        have w22035 := hw
                        refine lv_aload_n hx hb dX7_nextToken_101 rfl (lv_at hl 3 rfl) ?_
                        refine va_get (D := G) (ci := 7) (v := .int v20741) (C := RX7) (T := TX7) (N := 8) hx hb hts (mm_i inlX7) hown hK.1 hP 2 rfl rfl 4 (by decide) (mm_h hts mm_w207) (fun _ h9 => h9) rfl dX7_nextToken_102 ?_
                        refine lv_icmp_ne (tgt := 114) hx hb dX7_nextToken_105 (by decide) (fun c22036 => ?_) (fun c22036 => ?_)
                        · refine lv_aload_n hx hb dX7_nextToken_114 rfl (lv_at hl 3 rfl) ?_
                          refine lv_iload_n hx hb dX7_nextToken_115 rfl (lv_at hl 2 rfl) ?_
                          refine va_put (D := G) (ci := 7) (v := .int x5_1_14695) (ty := tyX7 5) (C := RX7) (T := TX7) (N := 8) hx hb hts (mm_i inlX7) tyX7 tyX7_ok nmX7 hown hK.1 hP hD hS 2 rfl rfl 5 (by decide) (mm_h hts mm_w232) (fun _ h9 => h9) rfl (tyX7_ok 5 (by decide)) rfl rfl (Nat.le_of_ble_eq_true rfl) dX7_nextToken_116 ?_
                          clear hP hD hS
                          clear H locs
                          intro H locs (hP : va_P G vwCl [(a_1, .inr (9, [.ref a_2, .int i_0])), (a_2, .inl (cy 0, 600, .inl f_0)), (a_0, .inr (7, [.ref a_1, .ref a_3, .int i_1, .int i_2, .int v20741, .int x5_1_14695, .int i_5, .int i_6]))] H) (hD : va_D A [(a_1, .inr (9, [.ref a_2, .int i_0])), (a_2, .inl (cy 0, 600, .inl f_0)), (a_0, .inr (7, [.ref a_1, .ref a_3, .int i_1, .int i_2, .int v20741, .int x5_1_14695, .int i_5, .int i_6]))]) hS
                          refine lv_aload_n hx hb dX7_nextToken_119 rfl (lv_at hl 3 rfl) ?_
                          refine lv_iload_n hx hb dX7_nextToken_120 rfl (lv_at hl 1 rfl) ?_
                          refine va_put (D := G) (ci := 7) (v := .int x81_2_22025) (ty := tyX7 6) (C := RX7) (T := TX7) (N := 8) hx hb hts (mm_i inlX7) tyX7 tyX7_ok nmX7 hown hK.1 hP hD hS 2 rfl rfl 6 (by decide) (mm_h hts mm_w206) (fun _ h9 => h9) rfl (tyX7_ok 6 (by decide)) rfl rfl (Nat.le_of_ble_eq_true rfl) dX7_nextToken_121 ?_
                          clear hP hD hS
                          clear H locs
                          intro H locs (hP : va_P G vwCl [(a_1, .inr (9, [.ref a_2, .int i_0])), (a_2, .inl (cy 0, 600, .inl f_0)), (a_0, .inr (7, [.ref a_1, .ref a_3, .int i_1, .int i_2, .int v20741, .int x5_1_14695, .int x81_2_22025, .int i_6]))] H) (hD : va_D A [(a_1, .inr (9, [.ref a_2, .int i_0])), (a_2, .inl (cy 0, 600, .inl f_0)), (a_0, .inr (7, [.ref a_1, .ref a_3, .int i_1, .int i_2, .int v20741, .int x5_1_14695, .int x81_2_22025, .int i_6]))]) hS
                          refine lv_aload_n hx hb dX7_nextToken_124 rfl (lv_at hl 3 rfl) ?_
                          refine lv_aload_n hx hb dX7_nextToken_125 rfl (lv_at hl 3 rfl) ?_
                          refine va_get (D := G) (ci := 7) (v := .int v20741) (C := RX7) (T := TX7) (N := 8) hx hb hts (mm_i inlX7) hown hK.1 hP 2 rfl rfl 4 (by decide) (mm_h hts mm_w207) (fun _ h9 => h9) rfl dX7_nextToken_126 ?_
                          refine lv_iconst (v := 3) hx hb dX7_nextToken_129 (by decide) ?_
                          refine lv_icmp_ne (tgt := 140) hx hb dX7_nextToken_130 (by decide) (fun c22037 => ?_) (fun c22037 => ?_)
                          · have q22038 := mm_neL (lo := 4) (mm_ne c22037) q21993 mm_k3 (by decide) (by decide)
                            exact mm_no q22038 (by decide)
                          · refine lv_aload_n hx hb dX7_nextToken_133 rfl (lv_at hl 3 rfl) ?_
                            refine mm_finir (va_runV (As := []) (rest := [.ref a_0]) ⟨hx, hb, hml, hown, hts⟩ (K8_X7_numberTold l G cy H.size a_0 a_1 a_2 i_0 f_0 a_3 i_1 i_2 v20741 x5_1_14695 x81_2_22025 i_6 h1 (mm_wk q20736 (by decide)) (mm_wk q22032 (by decide))) (cwV 0 hts (mm_gV mm_w239 mm_w240 mm_w241 mm_w19 mm_w242) rfl rfl rfl hd_X7_numberTold ⟨by rw [hRf]; exact Nat.le_of_ble_eq_true rfl, by rw [hRl]; exact Nat.le_of_ble_eq_true rfl⟩) (mm_preV hK hZ hS hA hP hD [0, 1, 2] rfl rfl 2 rfl rfl rfl) rfl rfl hl.1 rfl (lv_room (Nat.le_of_ble_eq_true rfl)) dX7_nextToken_134 ⟨by rw [hRc]; exact Nat.le_of_ble_eq_true rfl, by rw [hRs]; exact Nat.le_of_ble_eq_true rfl⟩) hP hD hS hA [0, 1, 2] rfl (fun _ => rfl) ?_
                            clear hP hD hS
                            clear H locs
                            intro v22039 _u H locs hw hP hD hS
                            refine lv_goto (tgt := 141) hx hb dX7_nextToken_137 (by decide) ?_
                            refine va_put (D := G) (ci := 7) (v := .int v22039) (ty := tyX7 7) (C := RX7) (T := TX7) (N := 8) hx hb hts (mm_i inlX7) tyX7 tyX7_ok nmX7 hown hK.1 hP hD hS 2 rfl rfl 7 (by decide) (mm_h hts mm_w233) (fun _ h9 => h9) rfl (tyX7_ok 7 (by decide)) rfl rfl (Nat.le_of_ble_eq_true rfl) dX7_nextToken_141 ?_
                            clear hP hD hS
                            clear H locs
                            intro H locs (hP : va_P G vwCl [(a_1, .inr (9, [.ref a_2, .int i_0])), (a_2, .inl (cy 0, 600, .inl f_0)), (a_0, .inr (7, [.ref a_1, .ref a_3, .int i_1, .int i_2, .int v20741, .int x5_1_14695, .int x81_2_22025, .int v22039]))] H) (hD : va_D A [(a_1, .inr (9, [.ref a_2, .int i_0])), (a_2, .inl (cy 0, 600, .inl f_0)), (a_0, .inr (7, [.ref a_1, .ref a_3, .int i_1, .int i_2, .int v20741, .int x5_1_14695, .int x81_2_22025, .int v22039]))]) hS
                            subst hAe
                            rw [hQ]
                            exact W.vret hx hb hr (fun t ht hW => ⟨⟨(v20741, x5_1_14695, x81_2_22025, v22039), rfl, ⟨(mm_wk q21993 (by decide)), (mm_wk q20736 (by decide)), (mm_wk q22032 (by decide))⟩, by rw [ht]; exact hP, hK.warm hW, hD⟩, hS.F ht⟩) hS.2.2 dX7_nextToken_144
                        · have q22040 := mm_eqI (lo := 3) (hi := 3) c22036 w22035 q21993 (by decide)
                          obtain ⟨v22041, ev22041⟩ : ∃ y : Int32, y = x81_2_22025 + 1 := ⟨_, rfl⟩
                          refine lv_iinc (v := v22041) (lv' := [(2, .int v22041), (3, .int 1), (1, .int x5_1_14695), (0, .ref a_0)]) hx hb dX7_nextToken_108 hl (k := 1) rfl (by rw [ev22041]; rfl) (by decide) rfl ?_
                          clear hl
                          clear ls
                          intro ls hl
                          have rv22041 : mm_rg v22041 2 600 := mm_add ev22041 q22032 mm_k1 (by decide) (by decide)
                          have tv22041 := mm_addEc ev22041 q22032 mm_k1 (by decide) (k := 1) (by decide)
                          refine lv_goto (tgt := 81) hx hb dX7_nextToken_111 (by decide) ?_
                          exact ih81 v22041 (mm_wk rv22041 (by decide)) (mm_mu hm81 tv22041 (by decide) (rv22041).2 (by decide)) H locs hP hD hS ls (lv_sub hl [1, 0, 2, 3] rfl)
                exact L81_22025 _ v21943 rv21943 (Nat.lt_succ_self _) H locs hP hD hS ls (lv_sub hl [0, 1, 2, 3] rfl)
        · have q22042 := mm_eqI (lo := 1) (hi := 1) c20740 w20739 mm_k1 (by decide)
          obtain ⟨v22043, ev22043⟩ : ∃ y : Int32, y = x5_1_14695 + 1 := ⟨_, rfl⟩
          refine lv_iinc (v := v22043) (lv' := [(1, .int v22043), (0, .ref a_0)]) hx hb dX7_nextToken_25 hl (k := 0) rfl (by rw [ev22043]; rfl) (by decide) rfl ?_
          clear hl
          clear ls
          intro ls hl
          have rv22043 : mm_rg v22043 1 600 := mm_add ev22043 q20736 mm_k1 (by decide) (by decide)
          have tv22043 := mm_addEc ev22043 q20736 mm_k1 (by decide) (k := 1) (by decide)
          refine lv_goto (tgt := 5) hx hb dX7_nextToken_28 (by decide) ?_
          exact ih5 v22043 (mm_wk rv22043 (by decide)) (mm_mu hm5 tv22043 (by decide) (rv22043).2 (by decide)) H locs hP hD hS ls (lv_sub hl [0, 1] rfl)
  exact L5_14695 _ i_5 h4 (Nat.lt_succ_self _) H locs hP hD hS ls (lv_sub hl [0, 1] rfl)

