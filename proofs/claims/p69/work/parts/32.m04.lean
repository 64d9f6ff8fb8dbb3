theorem dX12_anew_0 : decode cX12_anew 0 = .ok (.aload_n 0, 1) := by decide +kernel
theorem dX12_anew_1 : decode cX12_anew 1 = .ok (.iconst 0, 1) := by decide +kernel
theorem dX12_anew_2 : decode cX12_anew 2 = .ok (.putfield 77, 3) := by decide +kernel
theorem dX12_anew_5 : decode cX12_anew 5 = .ok (.aload_n 0, 1) := by decide +kernel
theorem dX12_anew_6 : decode cX12_anew 6 = .ok (.invokevirtual 251, 3) := by decide +kernel
theorem dX12_anew_9 : decode cX12_anew 9 = .ok (.ifCond .ne 6, 3) := by decide +kernel
theorem dX12_anew_12 : decode cX12_anew 12 = .ok (.bipush (-2), 2) := by decide +kernel
theorem dX12_anew_14 : decode cX12_anew 14 = .ok (.ireturn, 1) := by decide +kernel
theorem dX12_anew_15 : decode cX12_anew 15 = .ok (.aload_n 0, 1) := by decide +kernel
theorem dX12_anew_16 : decode cX12_anew 16 = .ok (.getfield 34, 3) := by decide +kernel
theorem dX12_anew_19 : decode cX12_anew 19 = .ok (.iconst 5, 1) := by decide +kernel
theorem dX12_anew_20 : decode cX12_anew 20 = .ok (.iaload, 1) := by decide +kernel
theorem dX12_anew_21 : decode cX12_anew 21 = .ok (.istore_n 1, 1) := by decide +kernel
theorem dX12_anew_22 : decode cX12_anew 22 = .ok (.aload_n 0, 1) := by decide +kernel
theorem dX12_anew_23 : decode cX12_anew 23 = .ok (.getfield 34, 3) := by decide +kernel
theorem dX12_anew_26 : decode cX12_anew 26 = .ok (.iconst 5, 1) := by decide +kernel
theorem dX12_anew_27 : decode cX12_anew 27 = .ok (.iconst 0, 1) := by decide +kernel
theorem dX12_anew_28 : decode cX12_anew 28 = .ok (.iastore, 1) := by decide +kernel
theorem dX12_anew_29 : decode cX12_anew 29 = .ok (.iload_n 1, 1) := by decide +kernel
theorem dX12_anew_30 : decode cX12_anew 30 = .ok (.ireturn, 1) := by decide +kernel
theorem dX12_book_0 : decode cX12_book 0 = .ok (.aload_n 0, 1) := by decide +kernel
theorem dX12_book_1 : decode cX12_book 1 = .ok (.iconst 0, 1) := by decide +kernel
theorem dX12_book_2 : decode cX12_book 2 = .ok (.putfield 77, 3) := by decide +kernel
theorem dX12_book_5 : decode cX12_book 5 = .ok (.aload_n 0, 1) := by decide +kernel
theorem dX12_book_6 : decode cX12_book 6 = .ok (.invokevirtual 216, 3) := by decide +kernel
theorem dX12_book_9 : decode cX12_book 9 = .ok (.aload_n 0, 1) := by decide +kernel
theorem dX12_book_10 : decode cX12_book 10 = .ok (.invokevirtual 219, 3) := by decide +kernel
theorem dX12_book_13 : decode cX12_book 13 = .ok (.aload_n 0, 1) := by decide +kernel
theorem dX12_book_14 : decode cX12_book 14 = .ok (.invokevirtual 222, 3) := by decide +kernel
theorem dX12_book_17 : decode cX12_book 17 = .ok (.ifCond .eq 87, 3) := by decide +kernel
theorem dX12_book_20 : decode cX12_book 20 = .ok (.aload_n 0, 1) := by decide +kernel
theorem dX12_book_21 : decode cX12_book 21 = .ok (.getfield 118, 3) := by decide +kernel
theorem dX12_book_24 : decode cX12_book 24 = .ok (.ifCond .eq 80, 3) := by decide +kernel
theorem dX12_book_27 : decode cX12_book 27 = .ok (.aload_n 0, 1) := by decide +kernel
theorem dX12_book_28 : decode cX12_book 28 = .ok (.getfield 31, 3) := by decide +kernel
theorem dX12_book_31 : decode cX12_book 31 = .ok (.iconst 4, 1) := by decide +kernel
theorem dX12_book_32 : decode cX12_book 32 = .ok (.iaload, 1) := by decide +kernel
theorem dX12_book_33 : decode cX12_book 33 = .ok (.ifCond .ne 43, 3) := by decide +kernel
theorem dX12_book_36 : decode cX12_book 36 = .ok (.aload_n 0, 1) := by decide +kernel
theorem dX12_book_37 : decode cX12_book 37 = .ok (.ldc2_w 226, 3) := by decide +kernel
theorem dX12_book_40 : decode cX12_book 40 = .ok (.invokevirtual 148, 3) := by decide +kernel
theorem dX12_book_43 : decode cX12_book 43 = .ok (.aload_n 0, 1) := by decide +kernel
theorem dX12_book_44 : decode cX12_book 44 = .ok (.iconst 0, 1) := by decide +kernel
theorem dX12_book_45 : decode cX12_book 45 = .ok (.aload_n 0, 1) := by decide +kernel
theorem dX12_book_46 : decode cX12_book 46 = .ok (.ldc2_w 228, 3) := by decide +kernel
theorem dX12_book_49 : decode cX12_book 49 = .ok (.iconst 0, 1) := by decide +kernel
theorem dX12_book_50 : decode cX12_book 50 = .ok (.bipush 10, 2) := by decide +kernel
theorem dX12_book_52 : decode cX12_book 52 = .ok (.invokevirtual 230, 3) := by decide +kernel
theorem dX12_book_55 : decode cX12_book 55 = .ok (.invokevirtual 173, 3) := by decide +kernel
theorem dX12_book_58 : decode cX12_book 58 = .ok (.aload_n 0, 1) := by decide +kernel
theorem dX12_book_59 : decode cX12_book 59 = .ok (.iconst 1, 1) := by decide +kernel
theorem dX12_book_60 : decode cX12_book 60 = .ok (.aload_n 0, 1) := by decide +kernel
theorem dX12_book_61 : decode cX12_book 61 = .ok (.ldc2_w 233, 3) := by decide +kernel
theorem dX12_book_64 : decode cX12_book 64 = .ok (.iconst 0, 1) := by decide +kernel
theorem dX12_book_65 : decode cX12_book 65 = .ok (.bipush 99, 2) := by decide +kernel
theorem dX12_book_67 : decode cX12_book 67 = .ok (.invokevirtual 230, 3) := by decide +kernel
theorem dX12_book_70 : decode cX12_book 70 = .ok (.invokevirtual 173, 3) := by decide +kernel
theorem dX12_book_73 : decode cX12_book 73 = .ok (.goto 7, 3) := by decide +kernel
theorem dX12_book_76 : decode cX12_book 76 = .ok (.aload_n 0, 1) := by decide +kernel
theorem dX12_book_77 : decode cX12_book 77 = .ok (.invokevirtual 235, 3) := by decide +kernel
theorem dX12_book_80 : decode cX12_book 80 = .ok (.aload_n 0, 1) := by decide +kernel
theorem dX12_book_81 : decode cX12_book 81 = .ok (.invokevirtual 222, 3) := by decide +kernel
theorem dX12_book_84 : decode cX12_book 84 = .ok (.ifCond .eq 7, 3) := by decide +kernel
theorem dX12_book_87 : decode cX12_book 87 = .ok (.aload_n 0, 1) := by decide +kernel
theorem dX12_book_88 : decode cX12_book 88 = .ok (.invokevirtual 238, 3) := by decide +kernel
theorem dX12_book_91 : decode cX12_book 91 = .ok (.aload_n 0, 1) := by decide +kernel
theorem dX12_book_92 : decode cX12_book 92 = .ok (.getfield 31, 3) := by decide +kernel
theorem dX12_book_95 : decode cX12_book 95 = .ok (.iconst 4, 1) := by decide +kernel
theorem dX12_book_96 : decode cX12_book 96 = .ok (.dup2, 1) := by decide +kernel
theorem dX12_book_97 : decode cX12_book 97 = .ok (.iaload, 1) := by decide +kernel
theorem dX12_book_98 : decode cX12_book 98 = .ok (.iconst 1, 1) := by decide +kernel
theorem dX12_book_99 : decode cX12_book 99 = .ok (.iadd, 1) := by decide +kernel
theorem dX12_book_100 : decode cX12_book 100 = .ok (.iastore, 1) := by decide +kernel
theorem dX12_book_101 : decode cX12_book 101 = .ok (.goto (-88), 3) := by decide +kernel
theorem dX12_book_104 : decode cX12_book 104 = .ok (.aload_n 0, 1) := by decide +kernel
theorem dX12_book_105 : decode cX12_book 105 = .ok (.invokevirtual 241, 3) := by decide +kernel
theorem dX12_book_108 : decode cX12_book 108 = .ok (.aload_n 0, 1) := by decide +kernel
theorem dX12_book_109 : decode cX12_book 109 = .ok (.getfield 129, 3) := by decide +kernel
theorem dX12_book_112 : decode cX12_book 112 = .ok (.ifCond .eq 6, 3) := by decide +kernel
theorem dX12_book_115 : decode cX12_book 115 = .ok (.bipush (-4), 2) := by decide +kernel
theorem dX12_book_117 : decode cX12_book 117 = .ok (.ireturn, 1) := by decide +kernel
theorem dX12_book_118 : decode cX12_book 118 = .ok (.aload_n 0, 1) := by decide +kernel
theorem dX12_book_119 : decode cX12_book 119 = .ok (.iconst 4, 1) := by decide +kernel
theorem dX12_book_120 : decode cX12_book 120 = .ok (.iconst 0, 1) := by decide +kernel
theorem dX12_book_121 : decode cX12_book 121 = .ok (.invokevirtual 244, 3) := by decide +kernel
theorem dX12_book_124 : decode cX12_book 124 = .ok (.aload_n 0, 1) := by decide +kernel
theorem dX12_book_125 : decode cX12_book 125 = .ok (.getfield 31, 3) := by decide +kernel
theorem dX12_book_128 : decode cX12_book 128 = .ok (.iconst 0, 1) := by decide +kernel
theorem dX12_book_129 : decode cX12_book 129 = .ok (.iaload, 1) := by decide +kernel
theorem dX12_book_130 : decode cX12_book 130 = .ok (.ireturn, 1) := by decide +kernel
theorem dX12_count_0 : decode cX12_count 0 = .ok (.aload_n 0, 1) := by decide +kernel
theorem dX12_count_1 : decode cX12_count 1 = .ok (.iconst 0, 1) := by decide +kernel
theorem dX12_count_2 : decode cX12_count 2 = .ok (.putfield 77, 3) := by decide +kernel
theorem dX12_count_5 : decode cX12_count 5 = .ok (.iconst 0, 1) := by decide +kernel
theorem dX12_count_6 : decode cX12_count 6 = .ok (.istore_n 2, 1) := by decide +kernel
theorem dX12_count_7 : decode cX12_count 7 = .ok (.iload_n 1, 1) := by decide +kernel
theorem dX12_count_8 : decode cX12_count 8 = .ok (.tableswitch 168 0 9 #[56, 63, 70, 75, 82, 111, 116, 123, 130, 135], 56) := by decide +kernel
theorem dX12_count_64 : decode cX12_count 64 = .ok (.aload_n 0, 1) := by decide +kernel
theorem dX12_count_65 : decode cX12_count 65 = .ok (.getfield 34, 3) := by decide +kernel
theorem dX12_count_68 : decode cX12_count 68 = .ok (.iconst 0, 1) := by decide +kernel
theorem dX12_count_69 : decode cX12_count 69 = .ok (.iaload, 1) := by decide +kernel
theorem dX12_count_70 : decode cX12_count 70 = .ok (.ireturn, 1) := by decide +kernel
theorem dX12_count_71 : decode cX12_count 71 = .ok (.aload_n 0, 1) := by decide +kernel
theorem dX12_count_72 : decode cX12_count 72 = .ok (.getfield 34, 3) := by decide +kernel
theorem dX12_count_75 : decode cX12_count 75 = .ok (.iconst 1, 1) := by decide +kernel
theorem dX12_count_76 : decode cX12_count 76 = .ok (.iaload, 1) := by decide +kernel
theorem dX12_count_77 : decode cX12_count 77 = .ok (.ireturn, 1) := by decide +kernel
theorem dX12_count_78 : decode cX12_count 78 = .ok (.aload_n 0, 1) := by decide +kernel
theorem dX12_count_79 : decode cX12_count 79 = .ok (.invokevirtual 254, 3) := by decide +kernel
theorem dX12_count_82 : decode cX12_count 82 = .ok (.ireturn, 1) := by decide +kernel
theorem dX12_count_83 : decode cX12_count 83 = .ok (.aload_n 0, 1) := by decide +kernel
theorem dX12_count_84 : decode cX12_count 84 = .ok (.getfield 34, 3) := by decide +kernel
theorem dX12_count_87 : decode cX12_count 87 = .ok (.iconst 3, 1) := by decide +kernel
theorem dX12_count_88 : decode cX12_count 88 = .ok (.iaload, 1) := by decide +kernel
theorem dX12_count_89 : decode cX12_count 89 = .ok (.ireturn, 1) := by decide +kernel
theorem dX12_count_90 : decode cX12_count 90 = .ok (.iconst 0, 1) := by decide +kernel
theorem dX12_count_91 : decode cX12_count 91 = .ok (.istore_n 3, 1) := by decide +kernel
theorem dX12_count_92 : decode cX12_count 92 = .ok (.iload_n 3, 1) := by decide +kernel
theorem dX12_count_93 : decode cX12_count 93 = .ok (.aload_n 0, 1) := by decide +kernel
theorem dX12_count_94 : decode cX12_count 94 = .ok (.getfield 34, 3) := by decide +kernel
theorem dX12_count_97 : decode cX12_count 97 = .ok (.iconst 3, 1) := by decide +kernel
theorem dX12_count_98 : decode cX12_count 98 = .ok (.iaload, 1) := by decide +kernel
theorem dX12_count_99 : decode cX12_count 99 = .ok (.if_icmp .ge 18, 3) := by decide +kernel
theorem dX12_count_102 : decode cX12_count 102 = .ok (.iload_n 2, 1) := by decide +kernel
theorem dX12_count_103 : decode cX12_count 103 = .ok (.aload_n 0, 1) := by decide +kernel
theorem dX12_count_104 : decode cX12_count 104 = .ok (.getfield 40, 3) := by decide +kernel
theorem dX12_count_107 : decode cX12_count 107 = .ok (.iload_n 3, 1) := by decide +kernel
theorem dX12_count_108 : decode cX12_count 108 = .ok (.iaload, 1) := by decide +kernel
theorem dX12_count_109 : decode cX12_count 109 = .ok (.iadd, 1) := by decide +kernel
theorem dX12_count_110 : decode cX12_count 110 = .ok (.istore_n 2, 1) := by decide +kernel
theorem dX12_count_111 : decode cX12_count 111 = .ok (.iinc 3 1, 3) := by decide +kernel
theorem dX12_count_114 : decode cX12_count 114 = .ok (.goto (-22), 3) := by decide +kernel
theorem dX12_count_117 : decode cX12_count 117 = .ok (.iload_n 2, 1) := by decide +kernel
theorem dX12_count_118 : decode cX12_count 118 = .ok (.ireturn, 1) := by decide +kernel
theorem dX12_count_119 : decode cX12_count 119 = .ok (.aload_n 0, 1) := by decide +kernel
theorem dX12_count_120 : decode cX12_count 120 = .ok (.invokevirtual 260, 3) := by decide +kernel
theorem dX12_count_123 : decode cX12_count 123 = .ok (.ireturn, 1) := by decide +kernel
theorem dX12_count_124 : decode cX12_count 124 = .ok (.aload_n 0, 1) := by decide +kernel
theorem dX12_count_125 : decode cX12_count 125 = .ok (.getfield 34, 3) := by decide +kernel
theorem dX12_count_128 : decode cX12_count 128 = .ok (.iconst 5, 1) := by decide +kernel
theorem dX12_count_129 : decode cX12_count 129 = .ok (.iaload, 1) := by decide +kernel
theorem dX12_count_130 : decode cX12_count 130 = .ok (.ireturn, 1) := by decide +kernel
theorem dX12_count_131 : decode cX12_count 131 = .ok (.aload_n 0, 1) := by decide +kernel
theorem dX12_count_132 : decode cX12_count 132 = .ok (.getfield 31, 3) := by decide +kernel
theorem dX12_count_135 : decode cX12_count 135 = .ok (.iconst 0, 1) := by decide +kernel
theorem dX12_count_136 : decode cX12_count 136 = .ok (.iaload, 1) := by decide +kernel
theorem dX12_count_137 : decode cX12_count 137 = .ok (.ireturn, 1) := by decide +kernel
theorem dX12_count_138 : decode cX12_count 138 = .ok (.aload_n 0, 1) := by decide +kernel
theorem dX12_count_139 : decode cX12_count 139 = .ok (.getfield 94, 3) := by decide +kernel
theorem dX12_count_142 : decode cX12_count 142 = .ok (.ireturn, 1) := by decide +kernel
theorem dX12_count_143 : decode cX12_count 143 = .ok (.iconst 0, 1) := by decide +kernel
theorem dX12_count_144 : decode cX12_count 144 = .ok (.istore_n 3, 1) := by decide +kernel
theorem dX12_count_145 : decode cX12_count 145 = .ok (.iload_n 3, 1) := by decide +kernel
theorem dX12_count_146 : decode cX12_count 146 = .ok (.iconst 4, 1) := by decide +kernel
theorem dX12_count_147 : decode cX12_count 147 = .ok (.if_icmp .ge 27, 3) := by decide +kernel
theorem dX12_count_150 : decode cX12_count 150 = .ok (.iload_n 2, 1) := by decide +kernel
theorem dX12_count_151 : decode cX12_count 151 = .ok (.aload_n 0, 1) := by decide +kernel
theorem dX12_count_152 : decode cX12_count 152 = .ok (.getfield 7, 3) := by decide +kernel
theorem dX12_count_155 : decode cX12_count 155 = .ok (.iload_n 3, 1) := by decide +kernel
theorem dX12_count_156 : decode cX12_count 156 = .ok (.iaload, 1) := by decide +kernel
theorem dX12_count_157 : decode cX12_count 157 = .ok (.iconst (-1), 1) := by decide +kernel
theorem dX12_count_158 : decode cX12_count 158 = .ok (.if_icmp .ne 7, 3) := by decide +kernel
theorem dX12_count_161 : decode cX12_count 161 = .ok (.iconst 0, 1) := by decide +kernel
theorem dX12_count_162 : decode cX12_count 162 = .ok (.goto 4, 3) := by decide +kernel
theorem dX12_count_165 : decode cX12_count 165 = .ok (.iconst 1, 1) := by decide +kernel
theorem dX12_count_166 : decode cX12_count 166 = .ok (.iadd, 1) := by decide +kernel
theorem dX12_count_167 : decode cX12_count 167 = .ok (.istore_n 2, 1) := by decide +kernel
theorem dX12_count_168 : decode cX12_count 168 = .ok (.iinc 3 1, 3) := by decide +kernel
theorem dX12_count_171 : decode cX12_count 171 = .ok (.goto (-26), 3) := by decide +kernel
theorem dX12_count_174 : decode cX12_count 174 = .ok (.iload_n 2, 1) := by decide +kernel
theorem dX12_count_175 : decode cX12_count 175 = .ok (.ireturn, 1) := by decide +kernel
theorem dX12_count_176 : decode cX12_count 176 = .ok (.iconst (-1), 1) := by decide +kernel
theorem dX12_count_177 : decode cX12_count 177 = .ok (.ireturn, 1) := by decide +kernel
theorem dX12_drawn_0 : decode cX12_drawn 0 = .ok (.aload_n 0, 1) := by decide +kernel
theorem dX12_drawn_1 : decode cX12_drawn 1 = .ok (.iconst 0, 1) := by decide +kernel
theorem dX12_drawn_2 : decode cX12_drawn 2 = .ok (.putfield 77, 3) := by decide +kernel
theorem dX12_drawn_5 : decode cX12_drawn 5 = .ok (.aload_n 0, 1) := by decide +kernel
theorem dX12_drawn_6 : decode cX12_drawn 6 = .ok (.invokevirtual 251, 3) := by decide +kernel
theorem dX12_drawn_9 : decode cX12_drawn 9 = .ok (.ifCond .eq 32, 3) := by decide +kernel
theorem dX12_drawn_12 : decode cX12_drawn 12 = .ok (.iload_n 1, 1) := by decide +kernel
theorem dX12_drawn_13 : decode cX12_drawn 13 = .ok (.invokestatic 454, 3) := by decide +kernel
theorem dX12_drawn_16 : decode cX12_drawn 16 = .ok (.ifCond .eq 25, 3) := by decide +kernel
theorem dX12_drawn_19 : decode cX12_drawn 19 = .ok (.iload_n 2, 1) := by decide +kernel
theorem dX12_drawn_20 : decode cX12_drawn 20 = .ok (.i2l, 1) := by decide +kernel
theorem dX12_drawn_21 : decode cX12_drawn 21 = .ok (.lconst 0, 1) := by decide +kernel
theorem dX12_drawn_22 : decode cX12_drawn 22 = .ok (.ldc2_w 410, 3) := by decide +kernel
theorem dX12_drawn_25 : decode cX12_drawn 25 = .ok (.invokestatic 82, 3) := by decide +kernel
theorem dX12_drawn_28 : decode cX12_drawn 28 = .ok (.ifCond .eq 13, 3) := by decide +kernel
theorem dX12_drawn_31 : decode cX12_drawn 31 = .ok (.aload_n 0, 1) := by decide +kernel
theorem dX12_drawn_32 : decode cX12_drawn 32 = .ok (.iload_n 1, 1) := by decide +kernel
theorem dX12_drawn_33 : decode cX12_drawn 33 = .ok (.i2l, 1) := by decide +kernel
theorem dX12_drawn_34 : decode cX12_drawn 34 = .ok (.iload_n 2, 1) := by decide +kernel
theorem dX12_drawn_35 : decode cX12_drawn 35 = .ok (.invokevirtual 457, 3) := by decide +kernel
theorem dX12_drawn_38 : decode cX12_drawn 38 = .ok (.goto 5, 3) := by decide +kernel
theorem dX12_drawn_41 : decode cX12_drawn 41 = .ok (.bipush (-2), 2) := by decide +kernel
theorem dX12_drawn_43 : decode cX12_drawn 43 = .ok (.ireturn, 1) := by decide +kernel
theorem dX12_drawnOf_0 : decode cX12_drawnOf 0 = .ok (.lload_n 1, 1) := by decide +kernel
theorem dX12_drawnOf_1 : decode cX12_drawnOf 1 = .ok (.lstore 4, 2) := by decide +kernel
theorem dX12_drawnOf_3 : decode cX12_drawnOf 3 = .ok (.iconst 0, 1) := by decide +kernel
theorem dX12_drawnOf_4 : decode cX12_drawnOf 4 = .ok (.istore 6, 2) := by decide +kernel
theorem dX12_drawnOf_6 : decode cX12_drawnOf 6 = .ok (.iconst 0, 1) := by decide +kernel
theorem dX12_drawnOf_7 : decode cX12_drawnOf 7 = .ok (.istore 7, 2) := by decide +kernel
theorem dX12_drawnOf_9 : decode cX12_drawnOf 9 = .ok (.iload 7, 2) := by decide +kernel
theorem dX12_drawnOf_11 : decode cX12_drawnOf 11 = .ok (.iload_n 3, 1) := by decide +kernel
theorem dX12_drawnOf_12 : decode cX12_drawnOf 12 = .ok (.if_icmp .ge 56, 3) := by decide +kernel
theorem dX12_drawnOf_15 : decode cX12_drawnOf 15 = .ok (.ldc2_w 444, 3) := by decide +kernel
theorem dX12_drawnOf_18 : decode cX12_drawnOf 18 = .ok (.lload 4, 2) := by decide +kernel
theorem dX12_drawnOf_20 : decode cX12_drawnOf 20 = .ok (.lmul, 1) := by decide +kernel
theorem dX12_drawnOf_21 : decode cX12_drawnOf 21 = .ok (.ldc2_w 446, 3) := by decide +kernel
theorem dX12_drawnOf_24 : decode cX12_drawnOf 24 = .ok (.ladd, 1) := by decide +kernel
theorem dX12_drawnOf_25 : decode cX12_drawnOf 25 = .ok (.ldc2_w 448, 3) := by decide +kernel
theorem dX12_drawnOf_28 : decode cX12_drawnOf 28 = .ok (.lrem, 1) := by decide +kernel
theorem dX12_drawnOf_29 : decode cX12_drawnOf 29 = .ok (.lstore 4, 2) := by decide +kernel
theorem dX12_drawnOf_31 : decode cX12_drawnOf 31 = .ok (.iload 6, 2) := by decide +kernel
theorem dX12_drawnOf_33 : decode cX12_drawnOf 33 = .ok (.lload 4, 2) := by decide +kernel
theorem dX12_drawnOf_35 : decode cX12_drawnOf 35 = .ok (.ldc2_w 450, 3) := by decide +kernel
theorem dX12_drawnOf_38 : decode cX12_drawnOf 38 = .ok (.ldiv, 1) := by decide +kernel
theorem dX12_drawnOf_39 : decode cX12_drawnOf 39 = .ok (.ldc2_w 433, 3) := by decide +kernel
theorem dX12_drawnOf_42 : decode cX12_drawnOf 42 = .ok (.lrem, 1) := by decide +kernel
theorem dX12_drawnOf_43 : decode cX12_drawnOf 43 = .ok (.aload_n 0, 1) := by decide +kernel
theorem dX12_drawnOf_44 : decode cX12_drawnOf 44 = .ok (.getfield 34, 3) := by decide +kernel
theorem dX12_drawnOf_47 : decode cX12_drawnOf 47 = .ok (.iconst 0, 1) := by decide +kernel
theorem dX12_drawnOf_48 : decode cX12_drawnOf 48 = .ok (.iaload, 1) := by decide +kernel
theorem dX12_drawnOf_49 : decode cX12_drawnOf 49 = .ok (.i2l, 1) := by decide +kernel
theorem dX12_drawnOf_50 : decode cX12_drawnOf 50 = .ok (.lcmp, 1) := by decide +kernel
theorem dX12_drawnOf_51 : decode cX12_drawnOf 51 = .ok (.ifCond .ge 7, 3) := by decide +kernel
theorem dX12_drawnOf_54 : decode cX12_drawnOf 54 = .ok (.iconst 1, 1) := by decide +kernel
theorem dX12_drawnOf_55 : decode cX12_drawnOf 55 = .ok (.goto 4, 3) := by decide +kernel
theorem dX12_drawnOf_58 : decode cX12_drawnOf 58 = .ok (.iconst 0, 1) := by decide +kernel
theorem dX12_drawnOf_59 : decode cX12_drawnOf 59 = .ok (.iadd, 1) := by decide +kernel
theorem dX12_drawnOf_60 : decode cX12_drawnOf 60 = .ok (.istore 6, 2) := by decide +kernel
theorem dX12_drawnOf_62 : decode cX12_drawnOf 62 = .ok (.iinc 7 1, 3) := by decide +kernel
theorem dX12_drawnOf_65 : decode cX12_drawnOf 65 = .ok (.goto (-56), 3) := by decide +kernel
theorem dX12_drawnOf_68 : decode cX12_drawnOf 68 = .ok (.iload 6, 2) := by decide +kernel
theorem dX12_drawnOf_70 : decode cX12_drawnOf 70 = .ok (.ireturn, 1) := by decide +kernel
theorem dX12_fault_0 : decode cX12_fault 0 = .ok (.aload_n 0, 1) := by decide +kernel
theorem dX12_fault_1 : decode cX12_fault 1 = .ok (.iconst 0, 1) := by decide +kernel
theorem dX12_fault_2 : decode cX12_fault 2 = .ok (.putfield 77, 3) := by decide +kernel
theorem dX12_fault_5 : decode cX12_fault 5 = .ok (.iload_n 1, 1) := by decide +kernel
theorem dX12_fault_6 : decode cX12_fault 6 = .ok (.ifCond .ne 10, 3) := by decide +kernel
theorem dX12_fault_9 : decode cX12_fault 9 = .ok (.aload_n 0, 1) := by decide +kernel
theorem dX12_fault_10 : decode cX12_fault 10 = .ok (.getfield 156, 3) := by decide +kernel
theorem dX12_fault_13 : decode cX12_fault 13 = .ok (.goto 16, 3) := by decide +kernel
theorem dX12_fault_16 : decode cX12_fault 16 = .ok (.iload_n 1, 1) := by decide +kernel
theorem dX12_fault_17 : decode cX12_fault 17 = .ok (.iconst 1, 1) := by decide +kernel
theorem dX12_fault_18 : decode cX12_fault 18 = .ok (.if_icmp .ne 10, 3) := by decide +kernel
theorem dX12_fault_21 : decode cX12_fault 21 = .ok (.aload_n 0, 1) := by decide +kernel
theorem dX12_fault_22 : decode cX12_fault 22 = .ok (.getfield 27, 3) := by decide +kernel
theorem dX12_fault_25 : decode cX12_fault 25 = .ok (.goto 4, 3) := by decide +kernel
theorem dX12_fault_28 : decode cX12_fault 28 = .ok (.iconst (-1), 1) := by decide +kernel
theorem dX12_fault_29 : decode cX12_fault 29 = .ok (.ireturn, 1) := by decide +kernel
theorem dX12_fixed_0 : decode cX12_fixed 0 = .ok (.aload_n 0, 1) := by decide +kernel
theorem dX12_fixed_1 : decode cX12_fixed 1 = .ok (.iconst 0, 1) := by decide +kernel
theorem dX12_fixed_2 : decode cX12_fixed 2 = .ok (.putfield 77, 3) := by decide +kernel
theorem dX12_fixed_5 : decode cX12_fixed 5 = .ok (.aload_n 0, 1) := by decide +kernel
theorem dX12_fixed_6 : decode cX12_fixed 6 = .ok (.iload_n 1, 1) := by decide +kernel
theorem dX12_fixed_7 : decode cX12_fixed 7 = .ok (.invokevirtual 265, 3) := by decide +kernel
theorem dX12_fixed_10 : decode cX12_fixed 10 = .ok (.ifCond .ne 6, 3) := by decide +kernel
theorem dX12_fixed_13 : decode cX12_fixed 13 = .ok (.bipush (-2), 2) := by decide +kernel
theorem dX12_fixed_15 : decode cX12_fixed 15 = .ok (.ireturn, 1) := by decide +kernel
theorem dX12_fixed_16 : decode cX12_fixed 16 = .ok (.iconst 0, 1) := by decide +kernel
theorem dX12_fixed_17 : decode cX12_fixed 17 = .ok (.istore_n 2, 1) := by decide +kernel
theorem dX12_fixed_18 : decode cX12_fixed 18 = .ok (.iconst 0, 1) := by decide +kernel
theorem dX12_fixed_19 : decode cX12_fixed 19 = .ok (.istore_n 3, 1) := by decide +kernel
theorem dX12_fixed_20 : decode cX12_fixed 20 = .ok (.iload_n 3, 1) := by decide +kernel
theorem dX12_fixed_21 : decode cX12_fixed 21 = .ok (.aload_n 0, 1) := by decide +kernel
theorem dX12_fixed_22 : decode cX12_fixed 22 = .ok (.invokevirtual 257, 3) := by decide +kernel
theorem dX12_fixed_25 : decode cX12_fixed 25 = .ok (.if_icmp .ge 29, 3) := by decide +kernel
theorem dX12_fixed_28 : decode cX12_fixed 28 = .ok (.iload_n 2, 1) := by decide +kernel
theorem dX12_fixed_29 : decode cX12_fixed 29 = .ok (.aload_n 0, 1) := by decide +kernel
theorem dX12_fixed_30 : decode cX12_fixed 30 = .ok (.iload_n 1, 1) := by decide +kernel
theorem dX12_fixed_31 : decode cX12_fixed 31 = .ok (.iload_n 3, 1) := by decide +kernel
theorem dX12_fixed_32 : decode cX12_fixed 32 = .ok (.invokevirtual 273, 3) := by decide +kernel
theorem dX12_fixed_35 : decode cX12_fixed 35 = .ok (.iload_n 3, 1) := by decide +kernel
theorem dX12_fixed_36 : decode cX12_fixed 36 = .ok (.if_icmp .ne 9, 3) := by decide +kernel
theorem dX12_fixed_39 : decode cX12_fixed 39 = .ok (.iconst 1, 1) := by decide +kernel
theorem dX12_fixed_40 : decode cX12_fixed 40 = .ok (.iload_n 3, 1) := by decide +kernel
theorem dX12_fixed_41 : decode cX12_fixed 41 = .ok (.ishl, 1) := by decide +kernel
theorem dX12_fixed_42 : decode cX12_fixed 42 = .ok (.goto 4, 3) := by decide +kernel
theorem dX12_fixed_45 : decode cX12_fixed 45 = .ok (.iconst 0, 1) := by decide +kernel
theorem dX12_fixed_46 : decode cX12_fixed 46 = .ok (.ior, 1) := by decide +kernel
theorem dX12_fixed_47 : decode cX12_fixed 47 = .ok (.istore_n 2, 1) := by decide +kernel
theorem dX12_fixed_48 : decode cX12_fixed 48 = .ok (.iinc 3 1, 3) := by decide +kernel
theorem dX12_fixed_51 : decode cX12_fixed 51 = .ok (.goto (-31), 3) := by decide +kernel
theorem dX12_fixed_54 : decode cX12_fixed 54 = .ok (.iload_n 2, 1) := by decide +kernel
theorem dX12_fixed_55 : decode cX12_fixed 55 = .ok (.ireturn, 1) := by decide +kernel
theorem dX12_isBook_0 : decode cX12_isBook 0 = .ok (.aload_n 0, 1) := by decide +kernel
theorem dX12_isBook_1 : decode cX12_isBook 1 = .ok (.getfield 31, 3) := by decide +kernel
theorem dX12_isBook_4 : decode cX12_isBook 4 = .ok (.iconst 0, 1) := by decide +kernel
theorem dX12_isBook_5 : decode cX12_isBook 5 = .ok (.iaload, 1) := by decide +kernel
theorem dX12_isBook_6 : decode cX12_isBook 6 = .ok (.ifCond .le 7, 3) := by decide +kernel
theorem dX12_isBook_9 : decode cX12_isBook 9 = .ok (.iconst 1, 1) := by decide +kernel
theorem dX12_isBook_10 : decode cX12_isBook 10 = .ok (.goto 4, 3) := by decide +kernel
theorem dX12_isBook_13 : decode cX12_isBook 13 = .ok (.iconst 0, 1) := by decide +kernel
theorem dX12_isBook_14 : decode cX12_isBook 14 = .ok (.ireturn, 1) := by decide +kernel
theorem dX12_isHalf_0 : decode cX12_isHalf 0 = .ok (.iload_n 0, 1) := by decide +kernel
theorem dX12_isHalf_1 : decode cX12_isHalf 1 = .ok (.i2l, 1) := by decide +kernel
theorem dX12_isHalf_2 : decode cX12_isHalf 2 = .ok (.lconst 0, 1) := by decide +kernel
theorem dX12_isHalf_3 : decode cX12_isHalf 3 = .ok (.lconst 1, 1) := by decide +kernel
theorem dX12_isHalf_4 : decode cX12_isHalf 4 = .ok (.invokestatic 82, 3) := by decide +kernel
theorem dX12_isHalf_7 : decode cX12_isHalf 7 = .ok (.ireturn, 1) := by decide +kernel
theorem dX12_isLand_0 : decode cX12_isLand 0 = .ok (.iload_n 1, 1) := by decide +kernel
theorem dX12_isLand_1 : decode cX12_isLand 1 = .ok (.i2l, 1) := by decide +kernel
theorem dX12_isLand_2 : decode cX12_isLand 2 = .ok (.lconst 0, 1) := by decide +kernel
theorem dX12_isLand_3 : decode cX12_isLand 3 = .ok (.aload_n 0, 1) := by decide +kernel
theorem dX12_isLand_4 : decode cX12_isLand 4 = .ok (.getfield 34, 3) := by decide +kernel
theorem dX12_isLand_7 : decode cX12_isLand 7 = .ok (.iconst 3, 1) := by decide +kernel
theorem dX12_isLand_8 : decode cX12_isLand 8 = .ok (.iaload, 1) := by decide +kernel
theorem dX12_isLand_9 : decode cX12_isLand 9 = .ok (.i2l, 1) := by decide +kernel
theorem dX12_isLand_10 : decode cX12_isLand 10 = .ok (.lconst 1, 1) := by decide +kernel
theorem dX12_isLand_11 : decode cX12_isLand 11 = .ok (.lsub, 1) := by decide +kernel
theorem dX12_isLand_12 : decode cX12_isLand 12 = .ok (.invokestatic 82, 3) := by decide +kernel
theorem dX12_isLand_15 : decode cX12_isLand 15 = .ok (.ireturn, 1) := by decide +kernel
theorem dX12_isSeed_0 : decode cX12_isSeed 0 = .ok (.iload_n 0, 1) := by decide +kernel
theorem dX12_isSeed_1 : decode cX12_isSeed 1 = .ok (.i2l, 1) := by decide +kernel
theorem dX12_isSeed_2 : decode cX12_isSeed 2 = .ok (.lconst 0, 1) := by decide +kernel
theorem dX12_isSeed_3 : decode cX12_isSeed 3 = .ok (.ldc2_w 452, 3) := by decide +kernel
theorem dX12_isSeed_6 : decode cX12_isSeed 6 = .ok (.invokestatic 82, 3) := by decide +kernel
theorem dX12_isSeed_9 : decode cX12_isSeed 9 = .ok (.ireturn, 1) := by decide +kernel
theorem dX12_isText_0 : decode cX12_isText 0 = .ok (.lload_n 1, 1) := by decide +kernel
theorem dX12_isText_1 : decode cX12_isText 1 = .ok (.lconst 0, 1) := by decide +kernel
theorem dX12_isText_2 : decode cX12_isText 2 = .ok (.aload_n 0, 1) := by decide +kernel
theorem dX12_isText_3 : decode cX12_isText 3 = .ok (.invokevirtual 260, 3) := by decide +kernel
theorem dX12_isText_6 : decode cX12_isText 6 = .ok (.i2l, 1) := by decide +kernel
theorem dX12_isText_7 : decode cX12_isText 7 = .ok (.lconst 1, 1) := by decide +kernel
theorem dX12_isText_8 : decode cX12_isText 8 = .ok (.lsub, 1) := by decide +kernel
theorem dX12_isText_9 : decode cX12_isText 9 = .ok (.invokestatic 82, 3) := by decide +kernel
theorem dX12_isText_12 : decode cX12_isText 12 = .ok (.ireturn, 1) := by decide +kernel
theorem dX12_isWord_0 : decode cX12_isWord 0 = .ok (.iload_n 1, 1) := by decide +kernel
theorem dX12_isWord_1 : decode cX12_isWord 1 = .ok (.i2l, 1) := by decide +kernel
theorem dX12_isWord_2 : decode cX12_isWord 2 = .ok (.lconst 0, 1) := by decide +kernel
theorem dX12_isWord_3 : decode cX12_isWord 3 = .ok (.aload_n 0, 1) := by decide +kernel
theorem dX12_isWord_4 : decode cX12_isWord 4 = .ok (.invokevirtual 257, 3) := by decide +kernel
theorem dX12_isWord_7 : decode cX12_isWord 7 = .ok (.i2l, 1) := by decide +kernel
theorem dX12_isWord_8 : decode cX12_isWord 8 = .ok (.lconst 1, 1) := by decide +kernel
theorem dX12_isWord_9 : decode cX12_isWord 9 = .ok (.lsub, 1) := by decide +kernel
theorem dX12_isWord_10 : decode cX12_isWord 10 = .ok (.invokestatic 82, 3) := by decide +kernel
theorem dX12_isWord_13 : decode cX12_isWord 13 = .ok (.ireturn, 1) := by decide +kernel
theorem dX12_rate_0 : decode cX12_rate 0 = .ok (.aload_n 0, 1) := by decide +kernel
theorem dX12_rate_1 : decode cX12_rate 1 = .ok (.iconst 0, 1) := by decide +kernel
theorem dX12_rate_2 : decode cX12_rate 2 = .ok (.putfield 77, 3) := by decide +kernel
theorem dX12_rate_5 : decode cX12_rate 5 = .ok (.iload_n 1, 1) := by decide +kernel
theorem dX12_rate_6 : decode cX12_rate 6 = .ok (.i2l, 1) := by decide +kernel
theorem dX12_rate_7 : decode cX12_rate 7 = .ok (.lconst 0, 1) := by decide +kernel
theorem dX12_rate_8 : decode cX12_rate 8 = .ok (.aload_n 0, 1) := by decide +kernel
theorem dX12_rate_9 : decode cX12_rate 9 = .ok (.invokevirtual 254, 3) := by decide +kernel
theorem dX12_rate_12 : decode cX12_rate 12 = .ok (.i2l, 1) := by decide +kernel
theorem dX12_rate_13 : decode cX12_rate 13 = .ok (.lconst 1, 1) := by decide +kernel
theorem dX12_rate_14 : decode cX12_rate 14 = .ok (.lsub, 1) := by decide +kernel
theorem dX12_rate_15 : decode cX12_rate 15 = .ok (.invokestatic 82, 3) := by decide +kernel
theorem dX12_rate_18 : decode cX12_rate 18 = .ok (.ifCond .eq 27, 3) := by decide +kernel
theorem dX12_rate_21 : decode cX12_rate 21 = .ok (.aload_n 0, 1) := by decide +kernel
theorem dX12_rate_22 : decode cX12_rate 22 = .ok (.getfield 37, 3) := by decide +kernel
theorem dX12_rate_25 : decode cX12_rate 25 = .ok (.iconst 2, 1) := by decide +kernel
theorem dX12_rate_26 : decode cX12_rate 26 = .ok (.iload_n 1, 1) := by decide +kernel
theorem dX12_rate_27 : decode cX12_rate 27 = .ok (.imul, 1) := by decide +kernel
theorem dX12_rate_28 : decode cX12_rate 28 = .ok (.iaload, 1) := by decide +kernel
theorem dX12_rate_29 : decode cX12_rate 29 = .ok (.iconst 1, 1) := by decide +kernel
theorem dX12_rate_30 : decode cX12_rate 30 = .ok (.if_icmp .gt 15, 3) := by decide +kernel
theorem dX12_rate_33 : decode cX12_rate 33 = .ok (.iload_n 2, 1) := by decide +kernel
theorem dX12_rate_34 : decode cX12_rate 34 = .ok (.i2l, 1) := by decide +kernel
theorem dX12_rate_35 : decode cX12_rate 35 = .ok (.lconst 0, 1) := by decide +kernel
theorem dX12_rate_36 : decode cX12_rate 36 = .ok (.ldc2_w 467, 3) := by decide +kernel
theorem dX12_rate_39 : decode cX12_rate 39 = .ok (.invokestatic 82, 3) := by decide +kernel
theorem dX12_rate_42 : decode cX12_rate 42 = .ok (.ifCond .ne 6, 3) := by decide +kernel
theorem dX12_rate_45 : decode cX12_rate 45 = .ok (.bipush (-2), 2) := by decide +kernel
theorem dX12_rate_47 : decode cX12_rate 47 = .ok (.ireturn, 1) := by decide +kernel
theorem dX12_rate_48 : decode cX12_rate 48 = .ok (.aload_n 0, 1) := by decide +kernel
theorem dX12_rate_49 : decode cX12_rate 49 = .ok (.getfield 34, 3) := by decide +kernel
theorem dX12_rate_52 : decode cX12_rate 52 = .ok (.iconst 5, 1) := by decide +kernel
theorem dX12_rate_53 : decode cX12_rate 53 = .ok (.iaload, 1) := by decide +kernel
theorem dX12_rate_54 : decode cX12_rate 54 = .ok (.ifCond .le 6, 3) := by decide +kernel
theorem dX12_rate_57 : decode cX12_rate 57 = .ok (.bipush (-5), 2) := by decide +kernel
theorem dX12_rate_59 : decode cX12_rate 59 = .ok (.ireturn, 1) := by decide +kernel
theorem dX12_rate_60 : decode cX12_rate 60 = .ok (.aload_n 0, 1) := by decide +kernel
theorem dX12_rate_61 : decode cX12_rate 61 = .ok (.getfield 37, 3) := by decide +kernel
theorem dX12_rate_64 : decode cX12_rate 64 = .ok (.iconst 2, 1) := by decide +kernel
theorem dX12_rate_65 : decode cX12_rate 65 = .ok (.iload_n 1, 1) := by decide +kernel
theorem dX12_rate_66 : decode cX12_rate 66 = .ok (.imul, 1) := by decide +kernel
theorem dX12_rate_67 : decode cX12_rate 67 = .ok (.iconst 1, 1) := by decide +kernel
theorem dX12_rate_68 : decode cX12_rate 68 = .ok (.iadd, 1) := by decide +kernel
theorem dX12_rate_69 : decode cX12_rate 69 = .ok (.iaload, 1) := by decide +kernel
theorem dX12_rate_70 : decode cX12_rate 70 = .ok (.istore_n 3, 1) := by decide +kernel
theorem dX12_rate_71 : decode cX12_rate 71 = .ok (.aload_n 0, 1) := by decide +kernel
theorem dX12_rate_72 : decode cX12_rate 72 = .ok (.getfield 37, 3) := by decide +kernel
theorem dX12_rate_75 : decode cX12_rate 75 = .ok (.iconst 2, 1) := by decide +kernel
theorem dX12_rate_76 : decode cX12_rate 76 = .ok (.iload_n 1, 1) := by decide +kernel
theorem dX12_rate_77 : decode cX12_rate 77 = .ok (.imul, 1) := by decide +kernel
theorem dX12_rate_78 : decode cX12_rate 78 = .ok (.iconst 1, 1) := by decide +kernel
theorem dX12_rate_79 : decode cX12_rate 79 = .ok (.iadd, 1) := by decide +kernel
theorem dX12_rate_80 : decode cX12_rate 80 = .ok (.iload_n 2, 1) := by decide +kernel
theorem dX12_rate_81 : decode cX12_rate 81 = .ok (.iastore, 1) := by decide +kernel
theorem dX12_rate_82 : decode cX12_rate 82 = .ok (.iload_n 3, 1) := by decide +kernel
theorem dX12_rate_83 : decode cX12_rate 83 = .ok (.ireturn, 1) := by decide +kernel
theorem dX12_rule_0 : decode cX12_rule 0 = .ok (.aload_n 0, 1) := by decide +kernel
theorem dX12_rule_1 : decode cX12_rule 1 = .ok (.iconst 0, 1) := by decide +kernel
theorem dX12_rule_2 : decode cX12_rule 2 = .ok (.putfield 77, 3) := by decide +kernel
theorem dX12_rule_5 : decode cX12_rule 5 = .ok (.aload_n 0, 1) := by decide +kernel
theorem dX12_rule_6 : decode cX12_rule 6 = .ok (.iload_n 1, 1) := by decide +kernel
theorem dX12_rule_7 : decode cX12_rule 7 = .ok (.invokevirtual 265, 3) := by decide +kernel
theorem dX12_rule_10 : decode cX12_rule 10 = .ok (.ifCond .eq 48, 3) := by decide +kernel
theorem dX12_rule_13 : decode cX12_rule 13 = .ok (.iload_n 2, 1) := by decide +kernel
theorem dX12_rule_14 : decode cX12_rule 14 = .ok (.i2l, 1) := by decide +kernel
theorem dX12_rule_15 : decode cX12_rule 15 = .ok (.lconst 0, 1) := by decide +kernel
theorem dX12_rule_16 : decode cX12_rule 16 = .ok (.aload_n 0, 1) := by decide +kernel
theorem dX12_rule_17 : decode cX12_rule 17 = .ok (.getfield 40, 3) := by decide +kernel
theorem dX12_rule_20 : decode cX12_rule 20 = .ok (.iload_n 1, 1) := by decide +kernel
theorem dX12_rule_21 : decode cX12_rule 21 = .ok (.iaload, 1) := by decide +kernel
theorem dX12_rule_22 : decode cX12_rule 22 = .ok (.i2l, 1) := by decide +kernel
theorem dX12_rule_23 : decode cX12_rule 23 = .ok (.lconst 1, 1) := by decide +kernel
theorem dX12_rule_24 : decode cX12_rule 24 = .ok (.lsub, 1) := by decide +kernel
theorem dX12_rule_25 : decode cX12_rule 25 = .ok (.invokestatic 82, 3) := by decide +kernel
theorem dX12_rule_28 : decode cX12_rule 28 = .ok (.ifCond .eq 30, 3) := by decide +kernel
theorem dX12_rule_31 : decode cX12_rule 31 = .ok (.aload_n 0, 1) := by decide +kernel
theorem dX12_rule_32 : decode cX12_rule 32 = .ok (.iload_n 3, 1) := by decide +kernel
theorem dX12_rule_33 : decode cX12_rule 33 = .ok (.invokevirtual 320, 3) := by decide +kernel
theorem dX12_rule_36 : decode cX12_rule 36 = .ok (.ifCond .eq 22, 3) := by decide +kernel
theorem dX12_rule_39 : decode cX12_rule 39 = .ok (.aload_n 0, 1) := by decide +kernel
theorem dX12_rule_40 : decode cX12_rule 40 = .ok (.getfield 43, 3) := by decide +kernel
theorem dX12_rule_43 : decode cX12_rule 43 = .ok (.bipush 10, 2) := by decide +kernel
theorem dX12_rule_45 : decode cX12_rule 45 = .ok (.bipush 7, 2) := by decide +kernel
theorem dX12_rule_47 : decode cX12_rule 47 = .ok (.iload_n 1, 1) := by decide +kernel
theorem dX12_rule_48 : decode cX12_rule 48 = .ok (.imul, 1) := by decide +kernel
theorem dX12_rule_49 : decode cX12_rule 49 = .ok (.iload_n 2, 1) := by decide +kernel
theorem dX12_rule_50 : decode cX12_rule 50 = .ok (.iadd, 1) := by decide +kernel
theorem dX12_rule_51 : decode cX12_rule 51 = .ok (.imul, 1) := by decide +kernel
theorem dX12_rule_52 : decode cX12_rule 52 = .ok (.iload_n 3, 1) := by decide +kernel
theorem dX12_rule_53 : decode cX12_rule 53 = .ok (.iadd, 1) := by decide +kernel
theorem dX12_rule_54 : decode cX12_rule 54 = .ok (.iaload, 1) := by decide +kernel
theorem dX12_rule_55 : decode cX12_rule 55 = .ok (.goto 5, 3) := by decide +kernel
theorem dX12_rule_58 : decode cX12_rule 58 = .ok (.bipush (-2), 2) := by decide +kernel
theorem dX12_rule_60 : decode cX12_rule 60 = .ok (.ireturn, 1) := by decide +kernel
theorem dX12_sense_0 : decode cX12_sense 0 = .ok (.aload_n 0, 1) := by decide +kernel
theorem dX12_sense_1 : decode cX12_sense 1 = .ok (.iconst 0, 1) := by decide +kernel
theorem dX12_sense_2 : decode cX12_sense 2 = .ok (.putfield 77, 3) := by decide +kernel
theorem dX12_sense_5 : decode cX12_sense 5 = .ok (.iload_n 1, 1) := by decide +kernel
theorem dX12_sense_6 : decode cX12_sense 6 = .ok (.i2l, 1) := by decide +kernel
theorem dX12_sense_7 : decode cX12_sense 7 = .ok (.lconst 0, 1) := by decide +kernel
theorem dX12_sense_8 : decode cX12_sense 8 = .ok (.aload_n 0, 1) := by decide +kernel
theorem dX12_sense_9 : decode cX12_sense 9 = .ok (.invokevirtual 254, 3) := by decide +kernel
theorem dX12_sense_12 : decode cX12_sense 12 = .ok (.i2l, 1) := by decide +kernel
theorem dX12_sense_13 : decode cX12_sense 13 = .ok (.lconst 1, 1) := by decide +kernel
theorem dX12_sense_14 : decode cX12_sense 14 = .ok (.lsub, 1) := by decide +kernel
theorem dX12_sense_15 : decode cX12_sense 15 = .ok (.invokestatic 82, 3) := by decide +kernel
theorem dX12_sense_18 : decode cX12_sense 18 = .ok (.ifCond .eq 23, 3) := by decide +kernel
theorem dX12_sense_21 : decode cX12_sense 21 = .ok (.iload_n 2, 1) := by decide +kernel
theorem dX12_sense_22 : decode cX12_sense 22 = .ok (.invokestatic 314, 3) := by decide +kernel
theorem dX12_sense_25 : decode cX12_sense 25 = .ok (.ifCond .eq 16, 3) := by decide +kernel
theorem dX12_sense_28 : decode cX12_sense 28 = .ok (.aload_n 0, 1) := by decide +kernel
theorem dX12_sense_29 : decode cX12_sense 29 = .ok (.getfield 37, 3) := by decide +kernel
theorem dX12_sense_32 : decode cX12_sense 32 = .ok (.iconst 2, 1) := by decide +kernel
theorem dX12_sense_33 : decode cX12_sense 33 = .ok (.iload_n 1, 1) := by decide +kernel
theorem dX12_sense_34 : decode cX12_sense 34 = .ok (.imul, 1) := by decide +kernel
theorem dX12_sense_35 : decode cX12_sense 35 = .ok (.iload_n 2, 1) := by decide +kernel
theorem dX12_sense_36 : decode cX12_sense 36 = .ok (.iadd, 1) := by decide +kernel
theorem dX12_sense_37 : decode cX12_sense 37 = .ok (.iaload, 1) := by decide +kernel
theorem dX12_sense_38 : decode cX12_sense 38 = .ok (.goto 5, 3) := by decide +kernel
theorem dX12_sense_41 : decode cX12_sense 41 = .ok (.bipush (-2), 2) := by decide +kernel
theorem dX12_sense_43 : decode cX12_sense 43 = .ok (.ireturn, 1) := by decide +kernel
theorem dX12_senses_0 : decode cX12_senses 0 = .ok (.aload_n 0, 1) := by decide +kernel
theorem dX12_senses_1 : decode cX12_senses 1 = .ok (.getfield 34, 3) := by decide +kernel
theorem dX12_senses_4 : decode cX12_senses 4 = .ok (.iconst 2, 1) := by decide +kernel
theorem dX12_senses_5 : decode cX12_senses 5 = .ok (.iaload, 1) := by decide +kernel
theorem dX12_senses_6 : decode cX12_senses 6 = .ok (.ireturn, 1) := by decide +kernel
theorem dX12_texts_0 : decode cX12_texts 0 = .ok (.aload_n 0, 1) := by decide +kernel
theorem dX12_texts_1 : decode cX12_texts 1 = .ok (.getfield 34, 3) := by decide +kernel
theorem dX12_texts_4 : decode cX12_texts 4 = .ok (.iconst 4, 1) := by decide +kernel
theorem dX12_texts_5 : decode cX12_texts 5 = .ok (.iaload, 1) := by decide +kernel
theorem dX12_texts_6 : decode cX12_texts 6 = .ok (.ireturn, 1) := by decide +kernel
theorem dX12_turnOf_0 : decode cX12_turnOf 0 = .ok (.iload_n 2, 1) := by decide +kernel
theorem dX12_turnOf_1 : decode cX12_turnOf 1 = .ok (.istore_n 3, 1) := by decide +kernel
theorem dX12_turnOf_2 : decode cX12_turnOf 2 = .ok (.aload_n 0, 1) := by decide +kernel
theorem dX12_turnOf_3 : decode cX12_turnOf 3 = .ok (.getfield 40, 3) := by decide +kernel
theorem dX12_turnOf_6 : decode cX12_turnOf 6 = .ok (.iload_n 1, 1) := by decide +kernel
theorem dX12_turnOf_7 : decode cX12_turnOf 7 = .ok (.iaload, 1) := by decide +kernel
theorem dX12_turnOf_8 : decode cX12_turnOf 8 = .ok (.iconst 1, 1) := by decide +kernel
theorem dX12_turnOf_9 : decode cX12_turnOf 9 = .ok (.isub, 1) := by decide +kernel
theorem dX12_turnOf_10 : decode cX12_turnOf 10 = .ok (.istore 4, 2) := by decide +kernel
theorem dX12_turnOf_12 : decode cX12_turnOf 12 = .ok (.iload 4, 2) := by decide +kernel
theorem dX12_turnOf_14 : decode cX12_turnOf 14 = .ok (.ifCond .lt 27, 3) := by decide +kernel
theorem dX12_turnOf_17 : decode cX12_turnOf 17 = .ok (.aload_n 0, 1) := by decide +kernel
theorem dX12_turnOf_18 : decode cX12_turnOf 18 = .ok (.getfield 43, 3) := by decide +kernel
theorem dX12_turnOf_21 : decode cX12_turnOf 21 = .ok (.bipush 10, 2) := by decide +kernel
theorem dX12_turnOf_23 : decode cX12_turnOf 23 = .ok (.bipush 7, 2) := by decide +kernel
theorem dX12_turnOf_25 : decode cX12_turnOf 25 = .ok (.iload_n 1, 1) := by decide +kernel
theorem dX12_turnOf_26 : decode cX12_turnOf 26 = .ok (.imul, 1) := by decide +kernel
theorem dX12_turnOf_27 : decode cX12_turnOf 27 = .ok (.iload 4, 2) := by decide +kernel
theorem dX12_turnOf_29 : decode cX12_turnOf 29 = .ok (.iadd, 1) := by decide +kernel
theorem dX12_turnOf_30 : decode cX12_turnOf 30 = .ok (.imul, 1) := by decide +kernel
theorem dX12_turnOf_31 : decode cX12_turnOf 31 = .ok (.iload_n 3, 1) := by decide +kernel
theorem dX12_turnOf_32 : decode cX12_turnOf 32 = .ok (.iadd, 1) := by decide +kernel
theorem dX12_turnOf_33 : decode cX12_turnOf 33 = .ok (.iaload, 1) := by decide +kernel
theorem dX12_turnOf_34 : decode cX12_turnOf 34 = .ok (.istore_n 3, 1) := by decide +kernel
theorem dX12_turnOf_35 : decode cX12_turnOf 35 = .ok (.iinc 4 (-1), 3) := by decide +kernel
theorem dX12_turnOf_38 : decode cX12_turnOf 38 = .ok (.goto (-26), 3) := by decide +kernel
theorem dX12_turnOf_41 : decode cX12_turnOf 41 = .ok (.iload_n 3, 1) := by decide +kernel
theorem dX12_turnOf_42 : decode cX12_turnOf 42 = .ok (.ireturn, 1) := by decide +kernel
theorem dX12_undo_0 : decode cX12_undo 0 = .ok (.aload_n 0, 1) := by decide +kernel
theorem dX12_undo_1 : decode cX12_undo 1 = .ok (.iconst 0, 1) := by decide +kernel
theorem dX12_undo_2 : decode cX12_undo 2 = .ok (.putfield 77, 3) := by decide +kernel
theorem dX12_undo_5 : decode cX12_undo 5 = .ok (.aload_n 0, 1) := by decide +kernel
theorem dX12_undo_6 : decode cX12_undo 6 = .ok (.invokevirtual 251, 3) := by decide +kernel
theorem dX12_undo_9 : decode cX12_undo 9 = .ok (.ifCond .ne 6, 3) := by decide +kernel
theorem dX12_undo_12 : decode cX12_undo 12 = .ok (.bipush (-2), 2) := by decide +kernel
theorem dX12_undo_14 : decode cX12_undo 14 = .ok (.ireturn, 1) := by decide +kernel
theorem dX12_undo_15 : decode cX12_undo 15 = .ok (.aload_n 0, 1) := by decide +kernel
theorem dX12_undo_16 : decode cX12_undo 16 = .ok (.getfield 34, 3) := by decide +kernel
theorem dX12_undo_19 : decode cX12_undo 19 = .ok (.iconst 5, 1) := by decide +kernel
theorem dX12_undo_20 : decode cX12_undo 20 = .ok (.iaload, 1) := by decide +kernel
theorem dX12_undo_21 : decode cX12_undo 21 = .ok (.ifCond .ne 6, 3) := by decide +kernel
theorem dX12_undo_24 : decode cX12_undo 24 = .ok (.bipush (-5), 2) := by decide +kernel
theorem dX12_undo_26 : decode cX12_undo 26 = .ok (.ireturn, 1) := by decide +kernel
theorem dX12_undo_27 : decode cX12_undo 27 = .ok (.aload_n 0, 1) := by decide +kernel
theorem dX12_undo_28 : decode cX12_undo 28 = .ok (.getfield 34, 3) := by decide +kernel
theorem dX12_undo_31 : decode cX12_undo 31 = .ok (.iconst 5, 1) := by decide +kernel
theorem dX12_undo_32 : decode cX12_undo 32 = .ok (.dup2, 1) := by decide +kernel
theorem dX12_undo_33 : decode cX12_undo 33 = .ok (.iaload, 1) := by decide +kernel
theorem dX12_undo_34 : decode cX12_undo 34 = .ok (.iconst 1, 1) := by decide +kernel
theorem dX12_undo_35 : decode cX12_undo 35 = .ok (.isub, 1) := by decide +kernel
theorem dX12_undo_36 : decode cX12_undo 36 = .ok (.iastore, 1) := by decide +kernel
theorem dX12_undo_37 : decode cX12_undo 37 = .ok (.aload_n 0, 1) := by decide +kernel
theorem dX12_undo_38 : decode cX12_undo 38 = .ok (.getfield 34, 3) := by decide +kernel
theorem dX12_undo_41 : decode cX12_undo 41 = .ok (.iconst 5, 1) := by decide +kernel
theorem dX12_undo_42 : decode cX12_undo 42 = .ok (.iaload, 1) := by decide +kernel
theorem dX12_undo_43 : decode cX12_undo 43 = .ok (.ireturn, 1) := by decide +kernel
theorem dX12_word_0 : decode cX12_word 0 = .ok (.aload_n 0, 1) := by decide +kernel
theorem dX12_word_1 : decode cX12_word 1 = .ok (.iconst 0, 1) := by decide +kernel
theorem dX12_word_2 : decode cX12_word 2 = .ok (.putfield 77, 3) := by decide +kernel
theorem dX12_word_5 : decode cX12_word 5 = .ok (.aload_n 0, 1) := by decide +kernel
theorem dX12_word_6 : decode cX12_word 6 = .ok (.iload_n 1, 1) := by decide +kernel
theorem dX12_word_7 : decode cX12_word 7 = .ok (.i2l, 1) := by decide +kernel
theorem dX12_word_8 : decode cX12_word 8 = .ok (.invokevirtual 317, 3) := by decide +kernel
theorem dX12_word_11 : decode cX12_word 11 = .ok (.ifCond .ne 6, 3) := by decide +kernel
theorem dX12_word_14 : decode cX12_word 14 = .ok (.bipush (-2), 2) := by decide +kernel
theorem dX12_word_16 : decode cX12_word 16 = .ok (.ireturn, 1) := by decide +kernel
theorem dX12_word_17 : decode cX12_word 17 = .ok (.iload_n 2, 1) := by decide +kernel
theorem dX12_word_18 : decode cX12_word 18 = .ok (.i2l, 1) := by decide +kernel
theorem dX12_word_19 : decode cX12_word 19 = .ok (.lconst 0, 1) := by decide +kernel
theorem dX12_word_20 : decode cX12_word 20 = .ok (.aload_n 0, 1) := by decide +kernel
theorem dX12_word_21 : decode cX12_word 21 = .ok (.getfield 46, 3) := by decide +kernel
theorem dX12_word_24 : decode cX12_word 24 = .ok (.iload_n 1, 1) := by decide +kernel
theorem dX12_word_25 : decode cX12_word 25 = .ok (.iaload, 1) := by decide +kernel
theorem dX12_word_26 : decode cX12_word 26 = .ok (.i2l, 1) := by decide +kernel
theorem dX12_word_27 : decode cX12_word 27 = .ok (.lconst 1, 1) := by decide +kernel
theorem dX12_word_28 : decode cX12_word 28 = .ok (.lsub, 1) := by decide +kernel
theorem dX12_word_29 : decode cX12_word 29 = .ok (.invokestatic 82, 3) := by decide +kernel
theorem dX12_word_32 : decode cX12_word 32 = .ok (.ifCond .eq 17, 3) := by decide +kernel
theorem dX12_word_35 : decode cX12_word 35 = .ok (.aload_n 0, 1) := by decide +kernel
theorem dX12_word_36 : decode cX12_word 36 = .ok (.getfield 49, 3) := by decide +kernel
theorem dX12_word_39 : decode cX12_word 39 = .ok (.bipush 8, 2) := by decide +kernel
theorem dX12_word_41 : decode cX12_word 41 = .ok (.iload_n 1, 1) := by decide +kernel
theorem dX12_word_42 : decode cX12_word 42 = .ok (.imul, 1) := by decide +kernel
theorem dX12_word_43 : decode cX12_word 43 = .ok (.iload_n 2, 1) := by decide +kernel
theorem dX12_word_44 : decode cX12_word 44 = .ok (.iadd, 1) := by decide +kernel
theorem dX12_word_45 : decode cX12_word 45 = .ok (.iaload, 1) := by decide +kernel
theorem dX12_word_46 : decode cX12_word 46 = .ok (.goto 4, 3) := by decide +kernel
theorem dX12_word_49 : decode cX12_word 49 = .ok (.iconst (-1), 1) := by decide +kernel
theorem dX12_word_50 : decode cX12_word 50 = .ok (.ireturn, 1) := by decide +kernel
theorem dX12_words_0 : decode cX12_words 0 = .ok (.aload_n 0, 1) := by decide +kernel
theorem dX12_words_1 : decode cX12_words 1 = .ok (.invokevirtual 251, 3) := by decide +kernel
theorem dX12_words_4 : decode cX12_words 4 = .ok (.ifCond .eq 12, 3) := by decide +kernel
theorem dX12_words_7 : decode cX12_words 7 = .ok (.aload_n 0, 1) := by decide +kernel
theorem dX12_words_8 : decode cX12_words 8 = .ok (.invokevirtual 254, 3) := by decide +kernel
theorem dX12_words_11 : decode cX12_words 11 = .ok (.iconst 1, 1) := by decide +kernel
theorem dX12_words_12 : decode cX12_words 12 = .ok (.iadd, 1) := by decide +kernel
theorem dX12_words_13 : decode cX12_words 13 = .ok (.goto 4, 3) := by decide +kernel
theorem dX12_words_16 : decode cX12_words 16 = .ok (.iconst 0, 1) := by decide +kernel
theorem dX12_words_17 : decode cX12_words 17 = .ok (.ireturn, 1) := by decide +kernel
theorem mm_km4 : mm_rg (-4) (-4) (-4) := ⟨by decide, by decide⟩
theorem mm_kl2000000000 : mm_rl 2000000000 2000000000 2000000000 := ⟨by decide, by decide⟩
theorem mm_kl7 : mm_rl 7 7 7 := ⟨by decide, by decide⟩
theorem hd_X12_begins : yX12_begins.cls = RX12 ∧ yX12_begins.cls ≠ "java/lang/invoke/MethodHandle" ∧ yX12_begins.cls ≠ "java/lang/invoke/VarHandle" ∧ (parseMethodDescriptor yX12_begins.desc).map (fun d => d.parameters.length) = some 0 := by decide +kernel
theorem hd_X12_clears : yX12_clears.cls = RX12 ∧ yX12_clears.cls ≠ "java/lang/invoke/MethodHandle" ∧ yX12_clears.cls ≠ "java/lang/invoke/VarHandle" ∧ (parseMethodDescriptor yX12_clears.desc).map (fun d => d.parameters.length) = some 0 := by decide +kernel
theorem hd_X12_copyBook : yX12_copyBook.cls = RX12 ∧ yX12_copyBook.cls ≠ "java/lang/invoke/MethodHandle" ∧ yX12_copyBook.cls ≠ "java/lang/invoke/VarHandle" ∧ (parseMethodDescriptor yX12_copyBook.desc).map (fun d => d.parameters.length) = some 2 := by decide +kernel
theorem hd_X12_drawnOf : yX12_drawnOf.cls = RX12 ∧ yX12_drawnOf.cls ≠ "java/lang/invoke/MethodHandle" ∧ yX12_drawnOf.cls ≠ "java/lang/invoke/VarHandle" ∧ (parseMethodDescriptor yX12_drawnOf.desc).map (fun d => d.parameters.length) = some 2 := by decide +kernel
theorem hd_X12_ends : yX12_ends.cls = RX12 ∧ yX12_ends.cls ≠ "java/lang/invoke/MethodHandle" ∧ yX12_ends.cls ≠ "java/lang/invoke/VarHandle" ∧ (parseMethodDescriptor yX12_ends.desc).map (fun d => d.parameters.length) = some 0 := by decide +kernel
theorem hd_X12_isBook : yX12_isBook.cls = RX12 ∧ yX12_isBook.cls ≠ "java/lang/invoke/MethodHandle" ∧ yX12_isBook.cls ≠ "java/lang/invoke/VarHandle" ∧ (parseMethodDescriptor yX12_isBook.desc).map (fun d => d.parameters.length) = some 0 := by decide +kernel
theorem hd_X12_isGood : yX12_isGood.cls = RX12 ∧ yX12_isGood.cls ≠ "java/lang/invoke/MethodHandle" ∧ yX12_isGood.cls ≠ "java/lang/invoke/VarHandle" ∧ (parseMethodDescriptor yX12_isGood.desc).map (fun d => d.parameters.length) = some 0 := by decide +kernel
theorem hd_X12_isLand : yX12_isLand.cls = RX12 ∧ yX12_isLand.cls ≠ "java/lang/invoke/MethodHandle" ∧ yX12_isLand.cls ≠ "java/lang/invoke/VarHandle" ∧ (parseMethodDescriptor yX12_isLand.desc).map (fun d => d.parameters.length) = some 1 := by decide +kernel
theorem hd_X12_isOver : yX12_isOver.cls = RX12 ∧ yX12_isOver.cls ≠ "java/lang/invoke/MethodHandle" ∧ yX12_isOver.cls ≠ "java/lang/invoke/VarHandle" ∧ (parseMethodDescriptor yX12_isOver.desc).map (fun d => d.parameters.length) = some 0 := by decide +kernel
theorem hd_X12_isText : yX12_isText.cls = RX12 ∧ yX12_isText.cls ≠ "java/lang/invoke/MethodHandle" ∧ yX12_isText.cls ≠ "java/lang/invoke/VarHandle" ∧ (parseMethodDescriptor yX12_isText.desc).map (fun d => d.parameters.length) = some 1 := by decide +kernel
theorem hd_X12_isWord : yX12_isWord.cls = RX12 ∧ yX12_isWord.cls ≠ "java/lang/invoke/MethodHandle" ∧ yX12_isWord.cls ≠ "java/lang/invoke/VarHandle" ∧ (parseMethodDescriptor yX12_isWord.desc).map (fun d => d.parameters.length) = some 1 := by decide +kernel
theorem hd_X12_lineHere : yX12_lineHere.cls = RX12 ∧ yX12_lineHere.cls ≠ "java/lang/invoke/MethodHandle" ∧ yX12_lineHere.cls ≠ "java/lang/invoke/VarHandle" ∧ (parseMethodDescriptor yX12_lineHere.desc).map (fun d => d.parameters.length) = some 0 := by decide +kernel
theorem hd_X12_number_ : yX12_number_.cls = RX12 ∧ yX12_number_.cls ≠ "java/lang/invoke/MethodHandle" ∧ yX12_number_.cls ≠ "java/lang/invoke/VarHandle" ∧ (parseMethodDescriptor yX12_number_.desc).map (fun d => d.parameters.length) = some 3 := by decide +kernel
theorem hd_X12_senses : yX12_senses.cls = RX12 ∧ yX12_senses.cls ≠ "java/lang/invoke/MethodHandle" ∧ yX12_senses.cls ≠ "java/lang/invoke/VarHandle" ∧ (parseMethodDescriptor yX12_senses.desc).map (fun d => d.parameters.length) = some 0 := by decide +kernel
theorem hd_X12_texts : yX12_texts.cls = RX12 ∧ yX12_texts.cls ≠ "java/lang/invoke/MethodHandle" ∧ yX12_texts.cls ≠ "java/lang/invoke/VarHandle" ∧ (parseMethodDescriptor yX12_texts.desc).map (fun d => d.parameters.length) = some 0 := by decide +kernel
theorem hd_X12_turnOf : yX12_turnOf.cls = RX12 ∧ yX12_turnOf.cls ≠ "java/lang/invoke/MethodHandle" ∧ yX12_turnOf.cls ≠ "java/lang/invoke/VarHandle" ∧ (parseMethodDescriptor yX12_turnOf.desc).map (fun d => d.parameters.length) = some 2 := by decide +kernel
theorem hd_X12_words : yX12_words.cls = RX12 ∧ yX12_words.cls ≠ "java/lang/invoke/MethodHandle" ∧ yX12_words.cls ≠ "java/lang/invoke/VarHandle" ∧ (parseMethodDescriptor yX12_words.desc).map (fun d => d.parameters.length) = some 0 := by decide +kernel
theorem hs_X12_isHalf : yX12_isHalf.cls ≠ "java/lang/invoke/MethodHandle" ∧ yX12_isHalf.cls ≠ "java/lang/invoke/VarHandle" ∧ (parseMethodDescriptor yX12_isHalf.desc).map (fun d => d.parameters.length) = some 1 := by decide +kernel
theorem hs_X12_isSeed : yX12_isSeed.cls ≠ "java/lang/invoke/MethodHandle" ∧ yX12_isSeed.cls ≠ "java/lang/invoke/VarHandle" ∧ (parseMethodDescriptor yX12_isSeed.desc).map (fun d => d.parameters.length) = some 1 := by decide +kernel
set_option maxHeartbeats 4000000 in
set_option maxRecDepth 100000 in
theorem M90_X12_book (l : Launch) (G : va_G) (cy : Nat → ClassId) (sz : Nat) (a_0 : Nat) (i_0 : Int32) (a_1 : Nat) (a_2 : Nat) (a_3 : Nat) (a_4 : Nat) (a_5 : Nat) (i_1 : Int32) (i_2 : Int32) (i_3 : Int32) (i_4 : Int32) (i_5 : Int32) (j_0 : Int64) (i_6 : Int32) (i_7 : Int32) (i_8 : Int32) (i_9 : Int32) (a_6 : Nat) (a_7 : Nat) (a_8 : Nat) (a_9 : Nat) (a_10 : Nat) (a_11 : Nat) (a_12 : Nat) (a_13 : Nat) (a_14 : Nat) (a_15 : Nat) (a_16 : Nat) (a_17 : Nat) (a_18 : Nat) (i_10 : Int32) (i_11 : Int32) (i_12 : Int32) (i_13 : Int32) (i_14 : Int32) (i_15 : Int32) (a_19 : Nat) (i_16 : Int32) (a_20 : Nat) (f_0 : Nat → Int32) (i_17 : Int32) (i_18 : Int32) (i_19 : Int32) (i_20 : Int32) (i_21 : Int32) (i_22 : Int32) (i_23 : Int32) (i_24 : Int32) (i_25 : Int32) (i_26 : Int32) (i_27 : Int32) (i_28 : Int32) (i_29 : Int32) (i_30 : Int32) (i_31 : Int32) (i_32 : Int32) (i_33 : Int32) (i_34 : Int32) (i_35 : Int32) (i_36 : Int32) (i_37 : Int32) (i_38 : Int32) (i_39 : Int32) (i_40 : Int32) (i_41 : Int32) (i_42 : Int32) (i_43 : Int32) (i_44 : Int32) (i_45 : Int32) (i_46 : Int32) (i_47 : Int32) (i_48 : Int32) (i_49 : Int32) (i_50 : Int32) (i_51 : Int32) (f_1 : Nat → Int32) (f_2 : Nat → Int32) (f_3 : Nat → Int32) (f_4 : Nat → Int32) (f_5 : Nat → Int32) (f_6 : Nat → Int32) (h0 : mm_rg i_1 0 600) (h1 : mm_rg i_2 0 600) (h2 : mm_rg i_3 0 4) (h3 : mm_rg i_4 0 600) (h4 : mm_rg i_6 0 3) (h5 : mm_ar f_0 (-128) 127) (h6 : mm_rg i_17 0 601) (h7 : mm_rg i_18 0 601) (h8 : mm_rg i_19 0 601) (h9 : mm_rg i_20 0 601) (h10 : mm_rg i_21 0 601) (h11 : mm_rg i_22 0 10) (h12 : mm_rg i_23 0 99) (h13 : mm_rg i_24 0 9) (h14 : mm_rg i_25 0 3) (h15 : mm_rg i_26 0 6) (h16 : mm_rg i_27 0 30) (h17 : mm_rg i_28 0 10) (h18 : mm_rg i_29 0 99) (h19 : mm_rg i_30 0 9) (h20 : mm_rg i_31 0 3) (h21 : mm_rg i_32 0 6) (h22 : mm_rg i_33 0 30) (h23 : mm_rg i_34 0 10) (h24 : mm_rg i_35 0 99) (h25 : mm_rg i_36 0 9) (h26 : mm_rg i_37 0 3) (h27 : mm_rg i_38 0 6) (h28 : mm_rg i_39 0 30) (h29 : mm_rg i_40 0 10) (h30 : mm_rg i_41 0 99) (h31 : mm_rg i_42 0 9) (h32 : mm_rg i_43 0 3) (h33 : mm_rg i_44 0 6) (h34 : mm_rg i_45 0 30) (h35 : mm_rg i_46 0 10) (h36 : mm_rg i_47 0 99) (h37 : mm_rg i_48 0 9) (h38 : mm_rg i_49 0 3) (h39 : mm_rg i_50 0 6) (h40 : mm_rg i_51 0 30) (h41 : mm_ar f_1 0 99) (h42 : mm_ar f_2 0 7) (h43 : mm_ar f_3 0 9) (h44 : mm_ar f_4 0 8) (h45 : mm_ar f_5 0 9) (h46 : mm_ar f_6 (-1) 99) (h47 : mm_rls f_2 f_3 0 i_24 i_25) (h48 : mm_txs f_4 f_5 0 i_24 i_26) (h49 : mm_acs f_6 0 i_24 i_25 i_27) (h50 : mm_tl i_17 i_25 i_26) (h51 : mm_rls f_2 f_3 1 i_30 i_31) (h52 : mm_txs f_4 f_5 1 i_30 i_32) (h53 : mm_acs f_6 1 i_30 i_31 i_33) (h54 : mm_tl i_18 i_31 i_32) (h55 : mm_rls f_2 f_3 2 i_36 i_37) (h56 : mm_txs f_4 f_5 2 i_36 i_38) (h57 : mm_acs f_6 2 i_36 i_37 i_39) (h58 : mm_tl i_19 i_37 i_38) (h59 : mm_rls f_2 f_3 3 i_42 i_43) (h60 : mm_txs f_4 f_5 3 i_42 i_44) (h61 : mm_acs f_6 3 i_42 i_43 i_45) (h62 : mm_tl i_20 i_43 i_44)  : mm_CI l yX12_book (mm_ws yX12_book cX12_book 1 (some .int)) ({ frames := 7, cells := 0, slots := 0, locals := 158 } : Room) G cy sz [(a_0, .inr (12, [.int i_0, .ref a_1, .ref a_2, .ref a_3, .ref a_4, .ref a_5, .int i_1, .int i_2, .int i_3, .int i_4, .int i_5, .long j_0, .int i_6, .int i_7, .int i_8, .int i_9, .ref a_6, .ref a_7, .ref a_8, .ref a_9, .ref a_10, .ref a_11, .ref a_12, .ref a_13, .ref a_14, .ref a_15, .ref a_16, .ref a_17, .ref a_18, .int i_10, .int i_11, .int i_12, .int i_13, .int i_14, .int i_15, .ref a_19, .int i_16, .ref a_20])), (a_5, .inl (cy 0, 600, .inl f_0)), (a_6, .inl (cy 1, 5, .inl (mm_g [i_17, i_18, i_19, i_20, i_21]))), (a_7, .inl (cy 1, 30, .inl (mm_g [i_22, i_23, i_24, i_25, i_26, i_27, i_28, i_29, i_30, i_31, i_32, i_33, i_34, i_35, i_36, i_37, i_38, i_39, i_40, i_41, i_42, i_43, i_44, i_45, i_46, i_47, i_48, i_49, i_50, i_51]))), (a_8, .inl (cy 1, 90, .inl f_1)), (a_9, .inl (cy 1, 15, .inl f_2)), (a_10, .inl (cy 1, 1050, .inl f_3)), (a_11, .inl (cy 1, 30, .inl f_4)), (a_12, .inl (cy 1, 240, .inl f_5)), (a_13, .inl (cy 1, 450, .inl f_6))] [.ref a_0] (fun u : Int32 × Int32 × Int32 × Int32 × Int64 × Int32 × Int32 × Int32 × Int32 × Int32 × Int32 × Int32 × Int32 × Int32 × Int32 × Int32 × Int32 × Int32 × Int32 × Int32 × Int32 × Int32 × (Nat → Int32) × (Nat → Int32) × (Nat → Int32) × (Nat → Int32) × (Nat → Int32) × (Nat → Int32) => [(a_0, .inr (12, [.int 0, .ref a_1, .ref a_2, .ref a_3, .ref a_4, .ref a_5, .int 0, .int u.1, .int u.2.1, .int u.2.2.1, .int u.2.2.2.1, .long u.2.2.2.2.1, .int u.2.2.2.2.2.1, .int u.2.2.2.2.2.2.1, .int u.2.2.2.2.2.2.2.1, .int u.2.2.2.2.2.2.2.2.1, .ref a_6, .ref a_7, .ref a_8, .ref a_9, .ref a_10, .ref a_11, .ref a_12, .ref a_13, .ref a_14, .ref a_15, .ref a_16, .ref a_17, .ref a_18, .int i_10, .int i_11, .int i_12, .int i_13, .int i_14, .int i_15, .ref a_19, .int i_16, .ref a_20])), (a_5, .inl (cy 0, 600, .inl f_0)), (a_6, .inl (cy 1, 5, .inl (mm_g [u.2.2.2.2.2.2.2.2.2.1, i_18, i_19, i_20, u.2.2.2.2.2.2.2.2.2.2.1]))), (a_7, .inl (cy 1, 30, .inl (mm_g [u.2.2.2.2.2.2.2.2.2.2.2.1, u.2.2.2.2.2.2.2.2.2.2.2.2.1, u.2.2.2.2.2.2.2.2.2.2.2.2.2.1, u.2.2.2.2.2.2.2.2.2.2.2.2.2.2.1, u.2.2.2.2.2.2.2.2.2.2.2.2.2.2.2.1, u.2.2.2.2.2.2.2.2.2.2.2.2.2.2.2.2.1, i_28, i_29, i_30, i_31, i_32, i_33, i_34, i_35, i_36, i_37, i_38, i_39, i_40, i_41, i_42, i_43, i_44, i_45, u.2.2.2.2.2.2.2.2.2.2.2.2.2.2.2.2.2.1, u.2.2.2.2.2.2.2.2.2.2.2.2.2.2.2.2.2.2.1, u.2.2.2.2.2.2.2.2.2.2.2.2.2.2.2.2.2.2.2.1, u.2.2.2.2.2.2.2.2.2.2.2.2.2.2.2.2.2.2.2.2.1, u.2.2.2.2.2.2.2.2.2.2.2.2.2.2.2.2.2.2.2.2.2.1, 0]))), (a_8, .inl (cy 1, 90, .inl u.2.2.2.2.2.2.2.2.2.2.2.2.2.2.2.2.2.2.2.2.2.2.1)), (a_9, .inl (cy 1, 15, .inl u.2.2.2.2.2.2.2.2.2.2.2.2.2.2.2.2.2.2.2.2.2.2.2.1)), (a_10, .inl (cy 1, 1050, .inl u.2.2.2.2.2.2.2.2.2.2.2.2.2.2.2.2.2.2.2.2.2.2.2.2.1)), (a_11, .inl (cy 1, 30, .inl u.2.2.2.2.2.2.2.2.2.2.2.2.2.2.2.2.2.2.2.2.2.2.2.2.2.1)), (a_12, .inl (cy 1, 240, .inl u.2.2.2.2.2.2.2.2.2.2.2.2.2.2.2.2.2.2.2.2.2.2.2.2.2.2.1)), (a_13, .inl (cy 1, 450, .inl u.2.2.2.2.2.2.2.2.2.2.2.2.2.2.2.2.2.2.2.2.2.2.2.2.2.2.2))]) (fun (r : Int32) (u : Int32 × Int32 × Int32 × Int32 × Int64 × Int32 × Int32 × Int32 × Int32 × Int32 × Int32 × Int32 × Int32 × Int32 × Int32 × Int32 × Int32 × Int32 × Int32 × Int32 × Int32 × Int32 × (Nat → Int32) × (Nat → Int32) × (Nat → Int32) × (Nat → Int32) × (Nat → Int32) × (Nat → Int32)) => mm_rg u.1 0 600 ∧ mm_rg u.2.1 0 4 ∧ mm_rg u.2.2.1 0 600 ∧ mm_rg u.2.2.2.2.2.1 0 3 ∧ mm_rg u.2.2.2.2.2.2.2.1 0 3 ∧ mm_rg u.2.2.2.2.2.2.2.2.2.1 0 601 ∧ mm_rg u.2.2.2.2.2.2.2.2.2.2.1 0 601 ∧ mm_rg u.2.2.2.2.2.2.2.2.2.2.2.1 0 10 ∧ mm_rg u.2.2.2.2.2.2.2.2.2.2.2.2.1 0 99 ∧ mm_rg u.2.2.2.2.2.2.2.2.2.2.2.2.2.1 0 9 ∧ mm_rg u.2.2.2.2.2.2.2.2.2.2.2.2.2.2.1 0 3 ∧ mm_rg u.2.2.2.2.2.2.2.2.2.2.2.2.2.2.2.1 0 6 ∧ mm_rg u.2.2.2.2.2.2.2.2.2.2.2.2.2.2.2.2.1 0 30 ∧ mm_rg u.2.2.2.2.2.2.2.2.2.2.2.2.2.2.2.2.2.1 0 10 ∧ mm_rg u.2.2.2.2.2.2.2.2.2.2.2.2.2.2.2.2.2.2.1 0 99 ∧ mm_rg u.2.2.2.2.2.2.2.2.2.2.2.2.2.2.2.2.2.2.2.1 0 9 ∧ mm_rg u.2.2.2.2.2.2.2.2.2.2.2.2.2.2.2.2.2.2.2.2.1 0 3 ∧ mm_rg u.2.2.2.2.2.2.2.2.2.2.2.2.2.2.2.2.2.2.2.2.2.1 0 6 ∧ mm_ar u.2.2.2.2.2.2.2.2.2.2.2.2.2.2.2.2.2.2.2.2.2.2.1 0 99 ∧ mm_ar u.2.2.2.2.2.2.2.2.2.2.2.2.2.2.2.2.2.2.2.2.2.2.2.1 0 7 ∧ mm_ar u.2.2.2.2.2.2.2.2.2.2.2.2.2.2.2.2.2.2.2.2.2.2.2.2.1 0 9 ∧ mm_ar u.2.2.2.2.2.2.2.2.2.2.2.2.2.2.2.2.2.2.2.2.2.2.2.2.2.1 0 8 ∧ mm_ar u.2.2.2.2.2.2.2.2.2.2.2.2.2.2.2.2.2.2.2.2.2.2.2.2.2.2.1 0 9 ∧ mm_ar u.2.2.2.2.2.2.2.2.2.2.2.2.2.2.2.2.2.2.2.2.2.2.2.2.2.2.2 (-1) 99 ∧ mm_rls u.2.2.2.2.2.2.2.2.2.2.2.2.2.2.2.2.2.2.2.2.2.2.2.1 u.2.2.2.2.2.2.2.2.2.2.2.2.2.2.2.2.2.2.2.2.2.2.2.2.1 0 u.2.2.2.2.2.2.2.2.2.2.2.2.2.1 u.2.2.2.2.2.2.2.2.2.2.2.2.2.2.1 ∧ mm_txs u.2.2.2.2.2.2.2.2.2.2.2.2.2.2.2.2.2.2.2.2.2.2.2.2.2.1 u.2.2.2.2.2.2.2.2.2.2.2.2.2.2.2.2.2.2.2.2.2.2.2.2.2.2.1 0 u.2.2.2.2.2.2.2.2.2.2.2.2.2.1 u.2.2.2.2.2.2.2.2.2.2.2.2.2.2.2.1 ∧ mm_acs u.2.2.2.2.2.2.2.2.2.2.2.2.2.2.2.2.2.2.2.2.2.2.2.2.2.2.2 0 u.2.2.2.2.2.2.2.2.2.2.2.2.2.1 u.2.2.2.2.2.2.2.2.2.2.2.2.2.2.1 u.2.2.2.2.2.2.2.2.2.2.2.2.2.2.2.2.1 ∧ mm_tl u.2.2.2.2.2.2.2.2.2.1 u.2.2.2.2.2.2.2.2.2.2.2.2.2.2.1 u.2.2.2.2.2.2.2.2.2.2.2.2.2.2.2.1 ∧ mm_rls u.2.2.2.2.2.2.2.2.2.2.2.2.2.2.2.2.2.2.2.2.2.2.2.1 u.2.2.2.2.2.2.2.2.2.2.2.2.2.2.2.2.2.2.2.2.2.2.2.2.1 1 i_30 i_31 ∧ mm_txs u.2.2.2.2.2.2.2.2.2.2.2.2.2.2.2.2.2.2.2.2.2.2.2.2.2.1 u.2.2.2.2.2.2.2.2.2.2.2.2.2.2.2.2.2.2.2.2.2.2.2.2.2.2.1 1 i_30 i_32 ∧ mm_acs u.2.2.2.2.2.2.2.2.2.2.2.2.2.2.2.2.2.2.2.2.2.2.2.2.2.2.2 1 i_30 i_31 i_33 ∧ mm_rls u.2.2.2.2.2.2.2.2.2.2.2.2.2.2.2.2.2.2.2.2.2.2.2.1 u.2.2.2.2.2.2.2.2.2.2.2.2.2.2.2.2.2.2.2.2.2.2.2.2.1 2 i_36 i_37 ∧ mm_txs u.2.2.2.2.2.2.2.2.2.2.2.2.2.2.2.2.2.2.2.2.2.2.2.2.2.1 u.2.2.2.2.2.2.2.2.2.2.2.2.2.2.2.2.2.2.2.2.2.2.2.2.2.2.1 2 i_36 i_38 ∧ mm_acs u.2.2.2.2.2.2.2.2.2.2.2.2.2.2.2.2.2.2.2.2.2.2.2.2.2.2.2 2 i_36 i_37 i_39 ∧ mm_rls u.2.2.2.2.2.2.2.2.2.2.2.2.2.2.2.2.2.2.2.2.2.2.2.1 u.2.2.2.2.2.2.2.2.2.2.2.2.2.2.2.2.2.2.2.2.2.2.2.2.1 3 i_42 i_43 ∧ mm_txs u.2.2.2.2.2.2.2.2.2.2.2.2.2.2.2.2.2.2.2.2.2.2.2.2.2.1 u.2.2.2.2.2.2.2.2.2.2.2.2.2.2.2.2.2.2.2.2.2.2.2.2.2.2.1 3 i_42 i_44 ∧ mm_acs u.2.2.2.2.2.2.2.2.2.2.2.2.2.2.2.2.2.2.2.2.2.2.2.2.2.2.2 3 i_42 i_43 i_45 ∧ mm_rg r (-4) 600) 0 0 := by
  refine mm_begin (lv := [(0, .ref a_0)]) (by decide) (Nat.le_of_ble_eq_true rfl) rfl ?_
  intro p e s m below meth c A ls R args Q H locs hRe hQ hAe hx hb hr hlocks hml hown hnm hts hsz hA hS hP hK hD hZ hl
  have hRf : R.frames = 7 := by rw [hRe]
  have hRl : R.locals = 158 := by rw [hRe]
  have hRc : R.cells = 0 := by rw [hRe]
  have hRs : R.slots = 0 := by rw [hRe]
  refine lv_aload_n hx hb dX12_book_0 rfl (lv_at hl 0 rfl) ?_
  refine lv_iconst (v := 0) hx hb dX12_book_1 (by decide) ?_
  refine va_put (D := G) (ci := 12) (v := .int 0) (ty := tyX12 0) (C := RX12) (T := TX12) (N := 38) hx hb hts (mm_i inlX12) tyX12 tyX12_ok nmX12 hown hK.1 hP hD hS 0 rfl rfl 0 (by decide) (mm_h hts mm_w177) (fun _ h9 => h9) rfl (tyX12_ok 0 (by decide)) rfl rfl (Nat.le_of_ble_eq_true rfl) dX12_book_2 ?_
  clear hP hD hS
  clear H locs
  intro H locs (hP : va_P G vwCl [(a_0, .inr (12, [.int 0, .ref a_1, .ref a_2, .ref a_3, .ref a_4, .ref a_5, .int i_1, .int i_2, .int i_3, .int i_4, .int i_5, .long j_0, .int i_6, .int i_7, .int i_8, .int i_9, .ref a_6, .ref a_7, .ref a_8, .ref a_9, .ref a_10, .ref a_11, .ref a_12, .ref a_13, .ref a_14, .ref a_15, .ref a_16, .ref a_17, .ref a_18, .int i_10, .int i_11, .int i_12, .int i_13, .int i_14, .int i_15, .ref a_19, .int i_16, .ref a_20])), (a_5, .inl (cy 0, 600, .inl f_0)), (a_6, .inl (cy 1, 5, .inl (mm_g [i_17, i_18, i_19, i_20, i_21]))), (a_7, .inl (cy 1, 30, .inl (mm_g [i_22, i_23, i_24, i_25, i_26, i_27, i_28, i_29, i_30, i_31, i_32, i_33, i_34, i_35, i_36, i_37, i_38, i_39, i_40, i_41, i_42, i_43, i_44, i_45, i_46, i_47, i_48, i_49, i_50, i_51]))), (a_8, .inl (cy 1, 90, .inl f_1)), (a_9, .inl (cy 1, 15, .inl f_2)), (a_10, .inl (cy 1, 1050, .inl f_3)), (a_11, .inl (cy 1, 30, .inl f_4)), (a_12, .inl (cy 1, 240, .inl f_5)), (a_13, .inl (cy 1, 450, .inl f_6))] H) (hD : va_D A [(a_0, .inr (12, [.int 0, .ref a_1, .ref a_2, .ref a_3, .ref a_4, .ref a_5, .int i_1, .int i_2, .int i_3, .int i_4, .int i_5, .long j_0, .int i_6, .int i_7, .int i_8, .int i_9, .ref a_6, .ref a_7, .ref a_8, .ref a_9, .ref a_10, .ref a_11, .ref a_12, .ref a_13, .ref a_14, .ref a_15, .ref a_16, .ref a_17, .ref a_18, .int i_10, .int i_11, .int i_12, .int i_13, .int i_14, .int i_15, .ref a_19, .int i_16, .ref a_20])), (a_5, .inl (cy 0, 600, .inl f_0)), (a_6, .inl (cy 1, 5, .inl (mm_g [i_17, i_18, i_19, i_20, i_21]))), (a_7, .inl (cy 1, 30, .inl (mm_g [i_22, i_23, i_24, i_25, i_26, i_27, i_28, i_29, i_30, i_31, i_32, i_33, i_34, i_35, i_36, i_37, i_38, i_39, i_40, i_41, i_42, i_43, i_44, i_45, i_46, i_47, i_48, i_49, i_50, i_51]))), (a_8, .inl (cy 1, 90, .inl f_1)), (a_9, .inl (cy 1, 15, .inl f_2)), (a_10, .inl (cy 1, 1050, .inl f_3)), (a_11, .inl (cy 1, 30, .inl f_4)), (a_12, .inl (cy 1, 240, .inl f_5)), (a_13, .inl (cy 1, 450, .inl f_6))]) hS
  refine lv_aload_n hx hb dX12_book_5 rfl (lv_at hl 0 rfl) ?_
  refine mm_finv (va_runV (As := []) (rest := []) ⟨hx, hb, hml, hown, hts⟩ (M15_X12_clears l G cy H.size a_0 0 a_1 a_2 a_3 a_4 a_5 i_1 i_2 i_3 i_4 i_5 j_0 i_6 i_7 i_8 i_9 a_6 a_7 a_8 a_9 a_10 a_11 a_12 a_13 a_14 a_15 a_16 a_17 a_18 i_10 i_11 i_12 i_13 i_14 i_15 a_19 i_16 a_20 i_17 i_18 i_19 i_20 i_21 i_22 i_23 i_24 i_25 i_26 i_27 i_28 i_29 i_30 i_31 i_32 i_33 i_34 i_35 i_36 i_37 i_38 i_39 i_40 i_41 i_42 i_43 i_44 i_45 i_46 i_47 i_48 i_49 i_50 i_51 f_2 h6 h7 h8 h9 h10 h11 h12 h13 h14 h15 h16 h17 h18 h19 h20 h21 h22 h23 h24 h25 h26 h27 h28 h29 h30 h31 h32 h33 h34 h35 h36 h37 h38 h39 h40 h42 h50 h54 h58 h62) (cwV 0 hts (mm_gV mm_w437 mm_w438 mm_w439 mm_w5 mm_w440) rfl rfl rfl hd_X12_clears ⟨by rw [hRf]; exact Nat.le_of_ble_eq_true rfl, by rw [hRl]; exact Nat.le_of_ble_eq_true rfl⟩) (mm_preV hK hZ hS hA hP hD [0, 2, 3, 5] rfl rfl 0 rfl rfl rfl) rfl rfl hl.1 rfl (lv_room (Nat.le_of_ble_eq_true rfl)) dX12_book_6 ⟨by rw [hRc]; exact Nat.le_of_ble_eq_true rfl, by rw [hRs]; exact Nat.le_of_ble_eq_true rfl⟩) hP hD hS hA (fun u : (Nat → Int32) => [(a_0, .inr (12, [.int 0, .ref a_1, .ref a_2, .ref a_3, .ref a_4, .ref a_5, .int i_1, .int i_2, .int i_3, .int i_4, .int i_5, .long j_0, .int i_6, .int i_7, .int i_8, .int i_9, .ref a_6, .ref a_7, .ref a_8, .ref a_9, .ref a_10, .ref a_11, .ref a_12, .ref a_13, .ref a_14, .ref a_15, .ref a_16, .ref a_17, .ref a_18, .int i_10, .int i_11, .int i_12, .int i_13, .int i_14, .int i_15, .ref a_19, .int i_16, .ref a_20])), (a_5, .inl (cy 0, 600, .inl f_0)), (a_6, .inl (cy 1, 5, .inl (mm_g [i_17, i_18, i_19, i_20, 0]))), (a_7, .inl (cy 1, 30, .inl (mm_g [i_22, i_23, i_24, i_25, i_26, i_27, i_28, i_29, i_30, i_31, i_32, i_33, i_34, i_35, i_36, i_37, i_38, i_39, i_40, i_41, i_42, i_43, i_44, i_45, 0, 0, 0, 0, 0, 0]))), (a_8, .inl (cy 1, 90, .inl f_1)), (a_9, .inl (cy 1, 15, .inl u)), (a_10, .inl (cy 1, 1050, .inl f_3)), (a_11, .inl (cy 1, 30, .inl f_4)), (a_12, .inl (cy 1, 240, .inl f_5)), (a_13, .inl (cy 1, 450, .inl f_6))]) [0, 2, 3, 5] [1, 4, 6, 7, 8, 9] (n := 10) (fun _ => rfl) (by decide +kernel) (by decide +kernel) rfl (fun _ => rfl) (wr := [(a_5, .inl (cy 0, 600, .inl f_0)), (a_8, .inl (cy 1, 90, .inl f_1)), (a_10, .inl (cy 1, 1050, .inl f_3)), (a_11, .inl (cy 1, 30, .inl f_4)), (a_12, .inl (cy 1, 240, .inl f_5)), (a_13, .inl (cy 1, 450, .inl f_6))]) rfl (fun _ => rfl) (fun _ => rfl) ?_
  clear hP hD hS
  clear H locs
  intro n1 H locs hw (hP : va_P G vwCl [(a_0, .inr (12, [.int 0, .ref a_1, .ref a_2, .ref a_3, .ref a_4, .ref a_5, .int i_1, .int i_2, .int i_3, .int i_4, .int i_5, .long j_0, .int i_6, .int i_7, .int i_8, .int i_9, .ref a_6, .ref a_7, .ref a_8, .ref a_9, .ref a_10, .ref a_11, .ref a_12, .ref a_13, .ref a_14, .ref a_15, .ref a_16, .ref a_17, .ref a_18, .int i_10, .int i_11, .int i_12, .int i_13, .int i_14, .int i_15, .ref a_19, .int i_16, .ref a_20])), (a_5, .inl (cy 0, 600, .inl f_0)), (a_6, .inl (cy 1, 5, .inl (mm_g [i_17, i_18, i_19, i_20, 0]))), (a_7, .inl (cy 1, 30, .inl (mm_g [i_22, i_23, i_24, i_25, i_26, i_27, i_28, i_29, i_30, i_31, i_32, i_33, i_34, i_35, i_36, i_37, i_38, i_39, i_40, i_41, i_42, i_43, i_44, i_45, 0, 0, 0, 0, 0, 0]))), (a_8, .inl (cy 1, 90, .inl f_1)), (a_9, .inl (cy 1, 15, .inl n1)), (a_10, .inl (cy 1, 1050, .inl f_3)), (a_11, .inl (cy 1, 30, .inl f_4)), (a_12, .inl (cy 1, 240, .inl f_5)), (a_13, .inl (cy 1, 450, .inl f_6))] H) (hD : va_D A [(a_0, .inr (12, [.int 0, .ref a_1, .ref a_2, .ref a_3, .ref a_4, .ref a_5, .int i_1, .int i_2, .int i_3, .int i_4, .int i_5, .long j_0, .int i_6, .int i_7, .int i_8, .int i_9, .ref a_6, .ref a_7, .ref a_8, .ref a_9, .ref a_10, .ref a_11, .ref a_12, .ref a_13, .ref a_14, .ref a_15, .ref a_16, .ref a_17, .ref a_18, .int i_10, .int i_11, .int i_12, .int i_13, .int i_14, .int i_15, .ref a_19, .int i_16, .ref a_20])), (a_5, .inl (cy 0, 600, .inl f_0)), (a_6, .inl (cy 1, 5, .inl (mm_g [i_17, i_18, i_19, i_20, 0]))), (a_7, .inl (cy 1, 30, .inl (mm_g [i_22, i_23, i_24, i_25, i_26, i_27, i_28, i_29, i_30, i_31, i_32, i_33, i_34, i_35, i_36, i_37, i_38, i_39, i_40, i_41, i_42, i_43, i_44, i_45, 0, 0, 0, 0, 0, 0]))), (a_8, .inl (cy 1, 90, .inl f_1)), (a_9, .inl (cy 1, 15, .inl n1)), (a_10, .inl (cy 1, 1050, .inl f_3)), (a_11, .inl (cy 1, 30, .inl f_4)), (a_12, .inl (cy 1, 240, .inl f_5)), (a_13, .inl (cy 1, 450, .inl f_6))]) hS
  obtain ⟨w2, w3, w4⟩ := hw
  refine lv_aload_n hx hb dX12_book_9 rfl (lv_at hl 0 rfl) ?_
  refine mm_finv (va_runV (As := []) (rest := []) ⟨hx, hb, hml, hown, hts⟩ (M23_X12_begins l G cy H.size a_0 0 a_1 a_2 a_3 a_4 a_5 i_1 i_2 i_3 i_4 i_5 j_0 i_6 i_7 i_8 i_9 a_6 a_7 a_8 a_9 a_10 a_11 a_12 a_13 a_14 a_15 a_16 a_17 a_18 i_10 i_11 i_12 i_13 i_14 i_15 a_19 i_16 a_20 f_0 h0 h1 h2 h3 h4 h5) (cwV 0 hts (mm_gV mm_w445 mm_w446 mm_w447 mm_w5 mm_w448) rfl rfl rfl hd_X12_begins ⟨by rw [hRf]; exact Nat.le_of_ble_eq_true rfl, by rw [hRl]; exact Nat.le_of_ble_eq_true rfl⟩) (mm_preV hK hZ hS hA hP hD [0, 1] rfl rfl 0 rfl rfl rfl) rfl rfl hl.1 rfl (lv_room (Nat.le_of_ble_eq_true rfl)) dX12_book_10 ⟨by rw [hRc]; exact Nat.le_of_ble_eq_true rfl, by rw [hRs]; exact Nat.le_of_ble_eq_true rfl⟩) hP hD hS hA (fun u : Int32 × Int32 × Int32 × Int32 × Int64 => [(a_0, .inr (12, [.int 0, .ref a_1, .ref a_2, .ref a_3, .ref a_4, .ref a_5, .int i_1, .int u.1, .int u.2.1, .int u.2.2.1, .int u.2.2.2.1, .long u.2.2.2.2, .int 0, .int (-1), .int i_8, .int i_9, .ref a_6, .ref a_7, .ref a_8, .ref a_9, .ref a_10, .ref a_11, .ref a_12, .ref a_13, .ref a_14, .ref a_15, .ref a_16, .ref a_17, .ref a_18, .int i_10, .int i_11, .int i_12, .int i_13, .int i_14, .int i_15, .ref a_19, .int i_16, .ref a_20])), (a_5, .inl (cy 0, 600, .inl f_0)), (a_6, .inl (cy 1, 5, .inl (mm_g [i_17, i_18, i_19, i_20, 0]))), (a_7, .inl (cy 1, 30, .inl (mm_g [i_22, i_23, i_24, i_25, i_26, i_27, i_28, i_29, i_30, i_31, i_32, i_33, i_34, i_35, i_36, i_37, i_38, i_39, i_40, i_41, i_42, i_43, i_44, i_45, 0, 0, 0, 0, 0, 0]))), (a_8, .inl (cy 1, 90, .inl f_1)), (a_9, .inl (cy 1, 15, .inl n1)), (a_10, .inl (cy 1, 1050, .inl f_3)), (a_11, .inl (cy 1, 30, .inl f_4)), (a_12, .inl (cy 1, 240, .inl f_5)), (a_13, .inl (cy 1, 450, .inl f_6))]) [0, 1] [2, 3, 4, 5, 6, 7, 8, 9] (n := 10) (fun _ => rfl) (by decide +kernel) (by decide +kernel) rfl (fun _ => rfl) (wr := [(a_6, .inl (cy 1, 5, .inl (mm_g [i_17, i_18, i_19, i_20, 0]))), (a_7, .inl (cy 1, 30, .inl (mm_g [i_22, i_23, i_24, i_25, i_26, i_27, i_28, i_29, i_30, i_31, i_32, i_33, i_34, i_35, i_36, i_37, i_38, i_39, i_40, i_41, i_42, i_43, i_44, i_45, 0, 0, 0, 0, 0, 0]))), (a_8, .inl (cy 1, 90, .inl f_1)), (a_9, .inl (cy 1, 15, .inl n1)), (a_10, .inl (cy 1, 1050, .inl f_3)), (a_11, .inl (cy 1, 30, .inl f_4)), (a_12, .inl (cy 1, 240, .inl f_5)), (a_13, .inl (cy 1, 450, .inl f_6))]) rfl (fun _ => rfl) (fun _ => rfl) ?_
  clear hP hD hS
  clear H locs
  intro u
  obtain ⟨n5, n6, n7, n8, n9⟩ := u
  intro H locs hw (hP : va_P G vwCl [(a_0, .inr (12, [.int 0, .ref a_1, .ref a_2, .ref a_3, .ref a_4, .ref a_5, .int i_1, .int n5, .int n6, .int n7, .int n8, .long n9, .int 0, .int (-1), .int i_8, .int i_9, .ref a_6, .ref a_7, .ref a_8, .ref a_9, .ref a_10, .ref a_11, .ref a_12, .ref a_13, .ref a_14, .ref a_15, .ref a_16, .ref a_17, .ref a_18, .int i_10, .int i_11, .int i_12, .int i_13, .int i_14, .int i_15, .ref a_19, .int i_16, .ref a_20])), (a_5, .inl (cy 0, 600, .inl f_0)), (a_6, .inl (cy 1, 5, .inl (mm_g [i_17, i_18, i_19, i_20, 0]))), (a_7, .inl (cy 1, 30, .inl (mm_g [i_22, i_23, i_24, i_25, i_26, i_27, i_28, i_29, i_30, i_31, i_32, i_33, i_34, i_35, i_36, i_37, i_38, i_39, i_40, i_41, i_42, i_43, i_44, i_45, 0, 0, 0, 0, 0, 0]))), (a_8, .inl (cy 1, 90, .inl f_1)), (a_9, .inl (cy 1, 15, .inl n1)), (a_10, .inl (cy 1, 1050, .inl f_3)), (a_11, .inl (cy 1, 30, .inl f_4)), (a_12, .inl (cy 1, 240, .inl f_5)), (a_13, .inl (cy 1, 450, .inl f_6))] H) (hD : va_D A [(a_0, .inr (12, [.int 0, .ref a_1, .ref a_2, .ref a_3, .ref a_4, .ref a_5, .int i_1, .int n5, .int n6, .int n7, .int n8, .long n9, .int 0, .int (-1), .int i_8, .int i_9, .ref a_6, .ref a_7, .ref a_8, .ref a_9, .ref a_10, .ref a_11, .ref a_12, .ref a_13, .ref a_14, .ref a_15, .ref a_16, .ref a_17, .ref a_18, .int i_10, .int i_11, .int i_12, .int i_13, .int i_14, .int i_15, .ref a_19, .int i_16, .ref a_20])), (a_5, .inl (cy 0, 600, .inl f_0)), (a_6, .inl (cy 1, 5, .inl (mm_g [i_17, i_18, i_19, i_20, 0]))), (a_7, .inl (cy 1, 30, .inl (mm_g [i_22, i_23, i_24, i_25, i_26, i_27, i_28, i_29, i_30, i_31, i_32, i_33, i_34, i_35, i_36, i_37, i_38, i_39, i_40, i_41, i_42, i_43, i_44, i_45, 0, 0, 0, 0, 0, 0]))), (a_8, .inl (cy 1, 90, .inl f_1)), (a_9, .inl (cy 1, 15, .inl n1)), (a_10, .inl (cy 1, 1050, .inl f_3)), (a_11, .inl (cy 1, 30, .inl f_4)), (a_12, .inl (cy 1, 240, .inl f_5)), (a_13, .inl (cy 1, 450, .inl f_6))]) hS
  obtain ⟨w10, w11, w12, w13, w14, w15⟩ := hw
  have L13_841 : ∀ (n : Nat) (y13_0_7_812 : Int32) (y13_0_8_813 : Int32) (y13_0_9_814 : Int32) (y13_0_10_815 : Int32) (y13_0_11_816 : Int64) (y13_0_12_817 : Int32) (y13_0_13_818 : Int32) (w13_2_4_819 : Int32) (w13_3_24_820 : Int32) (w13_3_25_821 : Int32) (w13_3_26_822 : Int32) (w13_3_27_823 : Int32) (w13_3_28_824 : Int32) (z13_4_825 : Nat → Int32) (z13_5_826 : Nat → Int32) (z13_6_827 : Nat → Int32) (z13_7_828 : Nat → Int32) (z13_8_829 : Nat → Int32), mm_rg y13_0_7_812 0 600 → mm_rg y13_0_8_813 0 4 → mm_rg y13_0_9_814 0 600 → mm_rg y13_0_12_817 0 3 → mm_rg w13_2_4_819 0 601 → mm_rg w13_3_24_820 0 10 → mm_rg w13_3_25_821 0 99 → mm_rg w13_3_26_822 0 9 → mm_rg w13_3_27_823 0 3 → mm_rg w13_3_28_824 0 6 → mm_ar z13_4_825 0 99 → mm_ar z13_5_826 0 7 → mm_ar z13_6_827 0 9 → mm_ar z13_7_828 0 8 → mm_ar z13_8_829 0 9 → (y13_0_9_814 : Int32).toInt ≤ (y13_0_7_812 : Int32).toInt → (y13_0_7_812 : Int32).toInt ≤ (i_1 : Int32).toInt → mm_tk y13_0_8_813 y13_0_9_814 y13_0_7_812 → mm_lp y13_0_12_817 w13_2_4_819 y13_0_9_814 → mm_fr f_2 z13_5_826 12 → mm_fr f_3 z13_6_827 840 → mm_fr f_4 z13_7_828 24 → mm_fr f_5 z13_8_829 192 → mm_rls z13_5_826 z13_6_827 4 w13_3_26_822 w13_3_27_823 → mm_txs z13_7_828 z13_8_829 4 w13_3_26_822 w13_3_28_824 → mm_acs f_6 4 w13_3_26_822 w13_3_27_823 0 → mm_tl w13_2_4_819 w13_3_27_823 w13_3_28_824 → (if (y13_0_12_817 : Int32).toInt = 0 then (601 - (y13_0_9_814 : Int32).toInt).toNat + 1 else 0) < n → ∀ (H : Heap) (locs : List Loc), va_P G vwCl [(a_0, .inr (12, [.int 0, .ref a_1, .ref a_2, .ref a_3, .ref a_4, .ref a_5, .int i_1, .int y13_0_7_812, .int y13_0_8_813, .int y13_0_9_814, .int y13_0_10_815, .long y13_0_11_816, .int y13_0_12_817, .int y13_0_13_818, .int i_8, .int i_9, .ref a_6, .ref a_7, .ref a_8, .ref a_9, .ref a_10, .ref a_11, .ref a_12, .ref a_13, .ref a_14, .ref a_15, .ref a_16, .ref a_17, .ref a_18, .int i_10, .int i_11, .int i_12, .int i_13, .int i_14, .int i_15, .ref a_19, .int i_16, .ref a_20])), (a_5, .inl (cy 0, 600, .inl f_0)), (a_6, .inl (cy 1, 5, .inl (mm_g [i_17, i_18, i_19, i_20, w13_2_4_819]))), (a_7, .inl (cy 1, 30, .inl (mm_g [i_22, i_23, i_24, i_25, i_26, i_27, i_28, i_29, i_30, i_31, i_32, i_33, i_34, i_35, i_36, i_37, i_38, i_39, i_40, i_41, i_42, i_43, i_44, i_45, w13_3_24_820, w13_3_25_821, w13_3_26_822, w13_3_27_823, w13_3_28_824, 0]))), (a_8, .inl (cy 1, 90, .inl z13_4_825)), (a_9, .inl (cy 1, 15, .inl z13_5_826)), (a_10, .inl (cy 1, 1050, .inl z13_6_827)), (a_11, .inl (cy 1, 30, .inl z13_7_828)), (a_12, .inl (cy 1, 240, .inl z13_8_829)), (a_13, .inl (cy 1, 450, .inl f_6))] H → va_D A [(a_0, .inr (12, [.int 0, .ref a_1, .ref a_2, .ref a_3, .ref a_4, .ref a_5, .int i_1, .int y13_0_7_812, .int y13_0_8_813, .int y13_0_9_814, .int y13_0_10_815, .long y13_0_11_816, .int y13_0_12_817, .int y13_0_13_818, .int i_8, .int i_9, .ref a_6, .ref a_7, .ref a_8, .ref a_9, .ref a_10, .ref a_11, .ref a_12, .ref a_13, .ref a_14, .ref a_15, .ref a_16, .ref a_17, .ref a_18, .int i_10, .int i_11, .int i_12, .int i_13, .int i_14, .int i_15, .ref a_19, .int i_16, .ref a_20])), (a_5, .inl (cy 0, 600, .inl f_0)), (a_6, .inl (cy 1, 5, .inl (mm_g [i_17, i_18, i_19, i_20, w13_2_4_819]))), (a_7, .inl (cy 1, 30, .inl (mm_g [i_22, i_23, i_24, i_25, i_26, i_27, i_28, i_29, i_30, i_31, i_32, i_33, i_34, i_35, i_36, i_37, i_38, i_39, i_40, i_41, i_42, i_43, i_44, i_45, w13_3_24_820, w13_3_25_821, w13_3_26_822, w13_3_27_823, w13_3_28_824, 0]))), (a_8, .inl (cy 1, 90, .inl z13_4_825)), (a_9, .inl (cy 1, 15, .inl z13_5_826)), (a_10, .inl (cy 1, 1050, .inl z13_6_827)), (a_11, .inl (cy 1, 30, .inl z13_7_828)), (a_12, .inl (cy 1, 240, .inl z13_8_829)), (a_13, .inl (cy 1, 450, .inl f_6))] → va_S A s.heap H locs → ∀ (ls : Array Slot), lv_has ls 1 [(0, .ref a_0)] → W p l e R s m args below meth c H locs 0 0 Q (F0 m 13 ls []) := by
    intro n
    induction n with
    | zero => intro y13_0_7_812 y13_0_8_813 y13_0_9_814 y13_0_10_815 y13_0_11_816 y13_0_12_817 y13_0_13_818 w13_2_4_819 w13_3_24_820 w13_3_25_821 w13_3_26_822 w13_3_27_823 w13_3_28_824 z13_4_825 z13_5_826 z13_6_827 z13_7_828 z13_8_829 ry13_0_7_812 ry13_0_8_813 ry13_0_9_814 ry13_0_12_817 rw13_2_4_819 rw13_3_24_820 rw13_3_25_821 rw13_3_26_822 rw13_3_27_823 rw13_3_28_824 rz13_4_825 rz13_5_826 rz13_6_827 rz13_7_828 rz13_8_829 w830 w831 w832 w833 w834 w835 w836 w837 w838 w839 w840 w841 hm; exact absurd hm (Nat.not_lt_zero _)
    | succ n ih13 =>
      intro y13_0_7_812 y13_0_8_813 y13_0_9_814 y13_0_10_815 y13_0_11_816 y13_0_12_817 y13_0_13_818 w13_2_4_819 w13_3_24_820 w13_3_25_821 w13_3_26_822 w13_3_27_823 w13_3_28_824 z13_4_825 z13_5_826 z13_6_827 z13_7_828 z13_8_829 ry13_0_7_812 ry13_0_8_813 ry13_0_9_814 ry13_0_12_817 rw13_2_4_819 rw13_3_24_820 rw13_3_25_821 rw13_3_26_822 rw13_3_27_823 rw13_3_28_824 rz13_4_825 rz13_5_826 rz13_6_827 rz13_7_828 rz13_8_829 w830 w831 w832 w833 w834 w835 w836 w837 w838 w839 w840 w841 hm13 H locs hP hD hS ls hl
      refine lv_aload_n hx hb dX12_book_13 rfl (lv_at hl 0 rfl) ?_
      refine mm_finir (va_runV (As := []) (rest := []) ⟨hx, hb, hml, hown, hts⟩ (M24_X12_isGood l G cy H.size a_0 0 a_1 a_2 a_3 a_4 a_5 i_1 y13_0_7_812 y13_0_8_813 y13_0_9_814 y13_0_10_815 y13_0_11_816 y13_0_12_817 y13_0_13_818 i_8 i_9 a_6 a_7 a_8 a_9 a_10 a_11 a_12 a_13 a_14 a_15 a_16 a_17 a_18 i_10 i_11 i_12 i_13 i_14 i_15 a_19 i_16 a_20 ry13_0_12_817) (cwV 0 hts (mm_gV mm_w467 mm_w468 mm_w469 mm_w5 mm_w470) rfl rfl rfl hd_X12_isGood ⟨by rw [hRf]; exact Nat.le_of_ble_eq_true rfl, by rw [hRl]; exact Nat.le_of_ble_eq_true rfl⟩) (mm_preV hK hZ hS hA hP hD [0] rfl rfl 0 rfl rfl rfl) rfl rfl hl.1 rfl (lv_room (Nat.le_of_ble_eq_true rfl)) dX12_book_14 ⟨by rw [hRc]; exact Nat.le_of_ble_eq_true rfl, by rw [hRs]; exact Nat.le_of_ble_eq_true rfl⟩) hP hD hS hA [0] rfl (fun _ => rfl) ?_
      clear hP hD hS
      clear H locs
      intro v843 _u H locs hw hP hD hS
      rcases hw with ⟨rfl, w844⟩ | ⟨rfl, w845⟩
      · refine lv_if_eq (tgt := 104) hx hb dX12_book_17 (by decide) (fun c846 => ?_) (fun c846 => ?_)
        · refine lv_aload_n hx hb dX12_book_104 rfl (lv_at hl 0 rfl) ?_
          refine mm_finv (va_runV (As := []) (rest := []) ⟨hx, hb, hml, hown, hts⟩ (M25_X12_isOver l G cy H.size a_0 0 a_1 a_2 a_3 a_4 a_5 i_1 y13_0_7_812 y13_0_8_813 y13_0_9_814 y13_0_10_815 y13_0_11_816 y13_0_12_817 y13_0_13_818 i_8 i_9 a_6 a_7 a_8 a_9 a_10 a_11 a_12 a_13 a_14 a_15 a_16 a_17 a_18 i_10 i_11 i_12 i_13 i_14 i_15 a_19 i_16 a_20 h0 (mm_wk w844 (by decide))) (cwV 0 hts (mm_gV mm_w548 mm_w549 mm_w550 mm_w5 mm_w551) rfl rfl rfl hd_X12_isOver ⟨by rw [hRf]; exact Nat.le_of_ble_eq_true rfl, by rw [hRl]; exact Nat.le_of_ble_eq_true rfl⟩) (mm_preV hK hZ hS hA hP hD [0] rfl rfl 0 rfl rfl rfl) rfl rfl hl.1 rfl (lv_room (Nat.le_of_ble_eq_true rfl)) dX12_book_105 ⟨by rw [hRc]; exact Nat.le_of_ble_eq_true rfl, by rw [hRs]; exact Nat.le_of_ble_eq_true rfl⟩) hP hD hS hA (fun u : Int32 => [(a_0, .inr (12, [.int 0, .ref a_1, .ref a_2, .ref a_3, .ref a_4, .ref a_5, .int 0, .int y13_0_7_812, .int y13_0_8_813, .int y13_0_9_814, .int y13_0_10_815, .long y13_0_11_816, .int y13_0_12_817, .int y13_0_13_818, .int y13_0_12_817, .int u, .ref a_6, .ref a_7, .ref a_8, .ref a_9, .ref a_10, .ref a_11, .ref a_12, .ref a_13, .ref a_14, .ref a_15, .ref a_16, .ref a_17, .ref a_18, .int i_10, .int i_11, .int i_12, .int i_13, .int i_14, .int i_15, .ref a_19, .int i_16, .ref a_20])), (a_5, .inl (cy 0, 600, .inl f_0)), (a_6, .inl (cy 1, 5, .inl (mm_g [i_17, i_18, i_19, i_20, w13_2_4_819]))), (a_7, .inl (cy 1, 30, .inl (mm_g [i_22, i_23, i_24, i_25, i_26, i_27, i_28, i_29, i_30, i_31, i_32, i_33, i_34, i_35, i_36, i_37, i_38, i_39, i_40, i_41, i_42, i_43, i_44, i_45, w13_3_24_820, w13_3_25_821, w13_3_26_822, w13_3_27_823, w13_3_28_824, 0]))), (a_8, .inl (cy 1, 90, .inl z13_4_825)), (a_9, .inl (cy 1, 15, .inl z13_5_826)), (a_10, .inl (cy 1, 1050, .inl z13_6_827)), (a_11, .inl (cy 1, 30, .inl z13_7_828)), (a_12, .inl (cy 1, 240, .inl z13_8_829)), (a_13, .inl (cy 1, 450, .inl f_6))]) [0] [1, 2, 3, 4, 5, 6, 7, 8, 9] (n := 10) (fun _ => rfl) (by decide +kernel) (by decide +kernel) rfl (fun _ => rfl) (wr := [(a_5, .inl (cy 0, 600, .inl f_0)), (a_6, .inl (cy 1, 5, .inl (mm_g [i_17, i_18, i_19, i_20, w13_2_4_819]))), (a_7, .inl (cy 1, 30, .inl (mm_g [i_22, i_23, i_24, i_25, i_26, i_27, i_28, i_29, i_30, i_31, i_32, i_33, i_34, i_35, i_36, i_37, i_38, i_39, i_40, i_41, i_42, i_43, i_44, i_45, w13_3_24_820, w13_3_25_821, w13_3_26_822, w13_3_27_823, w13_3_28_824, 0]))), (a_8, .inl (cy 1, 90, .inl z13_4_825)), (a_9, .inl (cy 1, 15, .inl z13_5_826)), (a_10, .inl (cy 1, 1050, .inl z13_6_827)), (a_11, .inl (cy 1, 30, .inl z13_7_828)), (a_12, .inl (cy 1, 240, .inl z13_8_829)), (a_13, .inl (cy 1, 450, .inl f_6))]) rfl (fun _ => rfl) (fun _ => rfl) ?_
          clear hP hD hS
          clear H locs
          intro n847 H locs hw (hP : va_P G vwCl [(a_0, .inr (12, [.int 0, .ref a_1, .ref a_2, .ref a_3, .ref a_4, .ref a_5, .int 0, .int y13_0_7_812, .int y13_0_8_813, .int y13_0_9_814, .int y13_0_10_815, .long y13_0_11_816, .int y13_0_12_817, .int y13_0_13_818, .int y13_0_12_817, .int n847, .ref a_6, .ref a_7, .ref a_8, .ref a_9, .ref a_10, .ref a_11, .ref a_12, .ref a_13, .ref a_14, .ref a_15, .ref a_16, .ref a_17, .ref a_18, .int i_10, .int i_11, .int i_12, .int i_13, .int i_14, .int i_15, .ref a_19, .int i_16, .ref a_20])), (a_5, .inl (cy 0, 600, .inl f_0)), (a_6, .inl (cy 1, 5, .inl (mm_g [i_17, i_18, i_19, i_20, w13_2_4_819]))), (a_7, .inl (cy 1, 30, .inl (mm_g [i_22, i_23, i_24, i_25, i_26, i_27, i_28, i_29, i_30, i_31, i_32, i_33, i_34, i_35, i_36, i_37, i_38, i_39, i_40, i_41, i_42, i_43, i_44, i_45, w13_3_24_820, w13_3_25_821, w13_3_26_822, w13_3_27_823, w13_3_28_824, 0]))), (a_8, .inl (cy 1, 90, .inl z13_4_825)), (a_9, .inl (cy 1, 15, .inl z13_5_826)), (a_10, .inl (cy 1, 1050, .inl z13_6_827)), (a_11, .inl (cy 1, 30, .inl z13_7_828)), (a_12, .inl (cy 1, 240, .inl z13_8_829)), (a_13, .inl (cy 1, 450, .inl f_6))] H) (hD : va_D A [(a_0, .inr (12, [.int 0, .ref a_1, .ref a_2, .ref a_3, .ref a_4, .ref a_5, .int 0, .int y13_0_7_812, .int y13_0_8_813, .int y13_0_9_814, .int y13_0_10_815, .long y13_0_11_816, .int y13_0_12_817, .int y13_0_13_818, .int y13_0_12_817, .int n847, .ref a_6, .ref a_7, .ref a_8, .ref a_9, .ref a_10, .ref a_11, .ref a_12, .ref a_13, .ref a_14, .ref a_15, .ref a_16, .ref a_17, .ref a_18, .int i_10, .int i_11, .int i_12, .int i_13, .int i_14, .int i_15, .ref a_19, .int i_16, .ref a_20])), (a_5, .inl (cy 0, 600, .inl f_0)), (a_6, .inl (cy 1, 5, .inl (mm_g [i_17, i_18, i_19, i_20, w13_2_4_819]))), (a_7, .inl (cy 1, 30, .inl (mm_g [i_22, i_23, i_24, i_25, i_26, i_27, i_28, i_29, i_30, i_31, i_32, i_33, i_34, i_35, i_36, i_37, i_38, i_39, i_40, i_41, i_42, i_43, i_44, i_45, w13_3_24_820, w13_3_25_821, w13_3_26_822, w13_3_27_823, w13_3_28_824, 0]))), (a_8, .inl (cy 1, 90, .inl z13_4_825)), (a_9, .inl (cy 1, 15, .inl z13_5_826)), (a_10, .inl (cy 1, 1050, .inl z13_6_827)), (a_11, .inl (cy 1, 30, .inl z13_7_828)), (a_12, .inl (cy 1, 240, .inl z13_8_829)), (a_13, .inl (cy 1, 450, .inl f_6))]) hS
          refine lv_aload_n hx hb dX12_book_108 rfl (lv_at hl 0 rfl) ?_
          refine va_get (D := G) (ci := 12) (v := .int y13_0_12_817) (C := RX12) (T := TX12) (N := 38) hx hb hts (mm_i inlX12) hown hK.1 hP 0 rfl rfl 12 (by decide) (mm_h hts mm_w436) (fun _ h9 => h9) rfl dX12_book_109 ?_
          refine lv_if_eq (tgt := 118) hx hb dX12_book_112 (by decide) (fun c848 => ?_) (fun c848 => ?_)
          · exact mm_eqN c848.symm mm_k0 w844 (by decide)
          · refine lv_bipush (v := (-4)) hx hb dX12_book_115 (by decide) ?_
            subst hAe
            rw [hQ]
            exact W.iret (v := (-4)) hx hb hr (fun t ht hW => ⟨⟨(-4), (y13_0_7_812, y13_0_8_813, y13_0_9_814, y13_0_10_815, y13_0_11_816, y13_0_12_817, y13_0_13_818, y13_0_12_817, n847, i_17, w13_2_4_819, i_22, i_23, i_24, i_25, i_26, i_27, w13_3_24_820, w13_3_25_821, w13_3_26_822, w13_3_27_823, w13_3_28_824, z13_4_825, z13_5_826, z13_6_827, z13_7_828, z13_8_829, f_6), rfl, ⟨ry13_0_7_812, ry13_0_8_813, ry13_0_9_814, (mm_wk w844 (by decide)), (mm_wk w844 (by decide)), h6, rw13_2_4_819, h11, h12, h13, h14, h15, h16, rw13_3_24_820, rw13_3_25_821, rw13_3_26_822, rw13_3_27_823, rw13_3_28_824, rz13_4_825, rz13_5_826, rz13_6_827, rz13_7_828, rz13_8_829, h46, (mm_rls_fr h47 w834 w835 (by decide)), (mm_txs_fr h48 w836 w837 (by decide)), h49, h50, (mm_rls_fr h51 w834 w835 (by decide)), (mm_txs_fr h52 w836 w837 (by decide)), h53, (mm_rls_fr h55 w834 w835 (by decide)), (mm_txs_fr h56 w836 w837 (by decide)), h57, (mm_rls_fr h59 w834 w835 (by decide)), (mm_txs_fr h60 w836 w837 (by decide)), h61, (mm_wk mm_km4 (by decide))⟩, by rw [ht]; exact hP, hK.warm hW, hD⟩, hS.F ht⟩) hS.2.2 dX12_book_117
        · have q849 := mm_neL (lo := 1) (mm_ne c846) mm_k0 mm_k0 (by decide) (by decide)
          exact mm_no q849 (by decide)
      · have w850 := mm_lp0 w833 w845 (by decide)
        have q851 := mm_leL w850 rw13_2_4_819 ry13_0_9_814
        refine lv_if_eq (tgt := 104) hx hb dX12_book_17 (by decide) (fun c852 => ?_) (fun c852 => ?_)
        · exact mm_eqN c852.symm mm_k0 mm_k1 (by decide)
        · refine lv_aload_n hx hb dX12_book_20 rfl (lv_at hl 0 rfl) ?_
          refine va_get (D := G) (ci := 12) (v := .int y13_0_8_813) (C := RX12) (T := TX12) (N := 38) hx hb hts (mm_i inlX12) hown hK.1 hP 0 rfl rfl 8 (by decide) (mm_h hts mm_w432) (fun _ h9 => h9) rfl dX12_book_21 ?_
          refine lv_if_eq (tgt := 104) hx hb dX12_book_24 (by decide) (fun c853 => ?_) (fun c853 => ?_)
          · have q854 := mm_eqI (lo := 0) (hi := 0) c853 ry13_0_8_813 mm_k0 (by decide)
            refine lv_aload_n hx hb dX12_book_104 rfl (lv_at hl 0 rfl) ?_
            refine mm_finv (va_runV (As := []) (rest := []) ⟨hx, hb, hml, hown, hts⟩ (M25_X12_isOver l G cy H.size a_0 0 a_1 a_2 a_3 a_4 a_5 i_1 y13_0_7_812 y13_0_8_813 y13_0_9_814 y13_0_10_815 y13_0_11_816 y13_0_12_817 y13_0_13_818 i_8 i_9 a_6 a_7 a_8 a_9 a_10 a_11 a_12 a_13 a_14 a_15 a_16 a_17 a_18 i_10 i_11 i_12 i_13 i_14 i_15 a_19 i_16 a_20 h0 (mm_wk w845 (by decide))) (cwV 0 hts (mm_gV mm_w548 mm_w549 mm_w550 mm_w5 mm_w551) rfl rfl rfl hd_X12_isOver ⟨by rw [hRf]; exact Nat.le_of_ble_eq_true rfl, by rw [hRl]; exact Nat.le_of_ble_eq_true rfl⟩) (mm_preV hK hZ hS hA hP hD [0] rfl rfl 0 rfl rfl rfl) rfl rfl hl.1 rfl (lv_room (Nat.le_of_ble_eq_true rfl)) dX12_book_105 ⟨by rw [hRc]; exact Nat.le_of_ble_eq_true rfl, by rw [hRs]; exact Nat.le_of_ble_eq_true rfl⟩) hP hD hS hA (fun u : Int32 => [(a_0, .inr (12, [.int 0, .ref a_1, .ref a_2, .ref a_3, .ref a_4, .ref a_5, .int 0, .int y13_0_7_812, .int y13_0_8_813, .int y13_0_9_814, .int y13_0_10_815, .long y13_0_11_816, .int y13_0_12_817, .int y13_0_13_818, .int y13_0_12_817, .int u, .ref a_6, .ref a_7, .ref a_8, .ref a_9, .ref a_10, .ref a_11, .ref a_12, .ref a_13, .ref a_14, .ref a_15, .ref a_16, .ref a_17, .ref a_18, .int i_10, .int i_11, .int i_12, .int i_13, .int i_14, .int i_15, .ref a_19, .int i_16, .ref a_20])), (a_5, .inl (cy 0, 600, .inl f_0)), (a_6, .inl (cy 1, 5, .inl (mm_g [i_17, i_18, i_19, i_20, w13_2_4_819]))), (a_7, .inl (cy 1, 30, .inl (mm_g [i_22, i_23, i_24, i_25, i_26, i_27, i_28, i_29, i_30, i_31, i_32, i_33, i_34, i_35, i_36, i_37, i_38, i_39, i_40, i_41, i_42, i_43, i_44, i_45, w13_3_24_820, w13_3_25_821, w13_3_26_822, w13_3_27_823, w13_3_28_824, 0]))), (a_8, .inl (cy 1, 90, .inl z13_4_825)), (a_9, .inl (cy 1, 15, .inl z13_5_826)), (a_10, .inl (cy 1, 1050, .inl z13_6_827)), (a_11, .inl (cy 1, 30, .inl z13_7_828)), (a_12, .inl (cy 1, 240, .inl z13_8_829)), (a_13, .inl (cy 1, 450, .inl f_6))]) [0] [1, 2, 3, 4, 5, 6, 7, 8, 9] (n := 10) (fun _ => rfl) (by decide +kernel) (by decide +kernel) rfl (fun _ => rfl) (wr := [(a_5, .inl (cy 0, 600, .inl f_0)), (a_6, .inl (cy 1, 5, .inl (mm_g [i_17, i_18, i_19, i_20, w13_2_4_819]))), (a_7, .inl (cy 1, 30, .inl (mm_g [i_22, i_23, i_24, i_25, i_26, i_27, i_28, i_29, i_30, i_31, i_32, i_33, i_34, i_35, i_36, i_37, i_38, i_39, i_40, i_41, i_42, i_43, i_44, i_45, w13_3_24_820, w13_3_25_821, w13_3_26_822, w13_3_27_823, w13_3_28_824, 0]))), (a_8, .inl (cy 1, 90, .inl z13_4_825)), (a_9, .inl (cy 1, 15, .inl z13_5_826)), (a_10, .inl (cy 1, 1050, .inl z13_6_827)), (a_11, .inl (cy 1, 30, .inl z13_7_828)), (a_12, .inl (cy 1, 240, .inl z13_8_829)), (a_13, .inl (cy 1, 450, .inl f_6))]) rfl (fun _ => rfl) (fun _ => rfl) ?_
            clear hP hD hS
            clear H locs
            intro n855 H locs hw (hP : va_P G vwCl [(a_0, .inr (12, [.int 0, .ref a_1, .ref a_2, .ref a_3, .ref a_4, .ref a_5, .int 0, .int y13_0_7_812, .int y13_0_8_813, .int y13_0_9_814, .int y13_0_10_815, .long y13_0_11_816, .int y13_0_12_817, .int y13_0_13_818, .int y13_0_12_817, .int n855, .ref a_6, .ref a_7, .ref a_8, .ref a_9, .ref a_10, .ref a_11, .ref a_12, .ref a_13, .ref a_14, .ref a_15, .ref a_16, .ref a_17, .ref a_18, .int i_10, .int i_11, .int i_12, .int i_13, .int i_14, .int i_15, .ref a_19, .int i_16, .ref a_20])), (a_5, .inl (cy 0, 600, .inl f_0)), (a_6, .inl (cy 1, 5, .inl (mm_g [i_17, i_18, i_19, i_20, w13_2_4_819]))), (a_7, .inl (cy 1, 30, .inl (mm_g [i_22, i_23, i_24, i_25, i_26, i_27, i_28, i_29, i_30, i_31, i_32, i_33, i_34, i_35, i_36, i_37, i_38, i_39, i_40, i_41, i_42, i_43, i_44, i_45, w13_3_24_820, w13_3_25_821, w13_3_26_822, w13_3_27_823, w13_3_28_824, 0]))), (a_8, .inl (cy 1, 90, .inl z13_4_825)), (a_9, .inl (cy 1, 15, .inl z13_5_826)), (a_10, .inl (cy 1, 1050, .inl z13_6_827)), (a_11, .inl (cy 1, 30, .inl z13_7_828)), (a_12, .inl (cy 1, 240, .inl z13_8_829)), (a_13, .inl (cy 1, 450, .inl f_6))] H) (hD : va_D A [(a_0, .inr (12, [.int 0, .ref a_1, .ref a_2, .ref a_3, .ref a_4, .ref a_5, .int 0, .int y13_0_7_812, .int y13_0_8_813, .int y13_0_9_814, .int y13_0_10_815, .long y13_0_11_816, .int y13_0_12_817, .int y13_0_13_818, .int y13_0_12_817, .int n855, .ref a_6, .ref a_7, .ref a_8, .ref a_9, .ref a_10, .ref a_11, .ref a_12, .ref a_13, .ref a_14, .ref a_15, .ref a_16, .ref a_17, .ref a_18, .int i_10, .int i_11, .int i_12, .int i_13, .int i_14, .int i_15, .ref a_19, .int i_16, .ref a_20])), (a_5, .inl (cy 0, 600, .inl f_0)), (a_6, .inl (cy 1, 5, .inl (mm_g [i_17, i_18, i_19, i_20, w13_2_4_819]))), (a_7, .inl (cy 1, 30, .inl (mm_g [i_22, i_23, i_24, i_25, i_26, i_27, i_28, i_29, i_30, i_31, i_32, i_33, i_34, i_35, i_36, i_37, i_38, i_39, i_40, i_41, i_42, i_43, i_44, i_45, w13_3_24_820, w13_3_25_821, w13_3_26_822, w13_3_27_823, w13_3_28_824, 0]))), (a_8, .inl (cy 1, 90, .inl z13_4_825)), (a_9, .inl (cy 1, 15, .inl z13_5_826)), (a_10, .inl (cy 1, 1050, .inl z13_6_827)), (a_11, .inl (cy 1, 30, .inl z13_7_828)), (a_12, .inl (cy 1, 240, .inl z13_8_829)), (a_13, .inl (cy 1, 450, .inl f_6))]) hS
            refine lv_aload_n hx hb dX12_book_108 rfl (lv_at hl 0 rfl) ?_
            refine va_get (D := G) (ci := 12) (v := .int y13_0_12_817) (C := RX12) (T := TX12) (N := 38) hx hb hts (mm_i inlX12) hown hK.1 hP 0 rfl rfl 12 (by decide) (mm_h hts mm_w436) (fun _ h9 => h9) rfl dX12_book_109 ?_
            refine lv_if_eq (tgt := 118) hx hb dX12_book_112 (by decide) (fun c856 => ?_) (fun c856 => ?_)
            · refine lv_aload_n hx hb dX12_book_118 rfl (lv_at hl 0 rfl) ?_
              refine lv_iconst (v := 4) hx hb dX12_book_119 (by decide) ?_
              refine lv_iconst (v := 0) hx hb dX12_book_120 (by decide) ?_
              refine mm_finv (va_runV (As := [.int 4, .int 0]) (rest := []) ⟨hx, hb, hml, hown, hts⟩ (M34_X12_copyBook l G cy H.size a_0 0 a_1 a_2 a_3 a_4 a_5 0 y13_0_7_812 y13_0_8_813 y13_0_9_814 y13_0_10_815 y13_0_11_816 y13_0_12_817 y13_0_13_818 y13_0_12_817 n855 a_6 a_7 a_8 a_9 a_10 a_11 a_12 a_13 a_14 a_15 a_16 a_17 a_18 i_10 i_11 i_12 i_13 i_14 i_15 a_19 i_16 a_20 i_17 i_18 i_19 i_20 w13_2_4_819 i_22 i_23 i_24 i_25 i_26 i_27 i_28 i_29 i_30 i_31 i_32 i_33 i_34 i_35 i_36 i_37 i_38 i_39 i_40 i_41 i_42 i_43 i_44 i_45 w13_3_24_820 w13_3_25_821 w13_3_26_822 w13_3_27_823 w13_3_28_824 0 z13_4_825 z13_5_826 z13_6_827 z13_7_828 z13_8_829 f_6 h6 h7 h8 h9 (mm_wk q851 (by decide)) h11 h12 h13 h14 h15 h16 h17 h18 h19 h20 h21 h22 h23 h24 h25 h26 h27 h28 h29 h30 h31 h32 h33 h34 rw13_3_24_820 rw13_3_25_821 rw13_3_26_822 rw13_3_27_823 rw13_3_28_824 (mm_wk mm_k0 (by decide)) rz13_4_825 rz13_5_826 rz13_6_827 rz13_7_828 rz13_8_829 h46 (mm_rls_fr h47 w834 w835 (by decide)) (mm_txs_fr h48 w836 w837 (by decide)) h49 h50 (mm_rls_fr h51 w834 w835 (by decide)) (mm_txs_fr h52 w836 w837 (by decide)) h53 h54 (mm_rls_fr h55 w834 w835 (by decide)) (mm_txs_fr h56 w836 w837 (by decide)) h57 h58 (mm_rls_fr h59 w834 w835 (by decide)) (mm_txs_fr h60 w836 w837 (by decide)) h61 h62 w838 w839 w840 w841) (cwV 2 hts (mm_gV mm_w553 mm_w554 mm_w555 mm_w5 mm_w556) rfl rfl rfl hd_X12_copyBook ⟨by rw [hRf]; exact Nat.le_of_ble_eq_true rfl, by rw [hRl]; exact Nat.le_of_ble_eq_true rfl⟩) (mm_preV hK hZ hS hA hP hD [0, 2, 3, 4, 5, 6, 7, 8, 9] rfl rfl 0 rfl rfl rfl) rfl rfl hl.1 rfl (lv_room (Nat.le_of_ble_eq_true rfl)) dX12_book_121 ⟨by rw [hRc]; exact Nat.le_of_ble_eq_true rfl, by rw [hRs]; exact Nat.le_of_ble_eq_true rfl⟩) hP hD hS hA (fun u : (Nat → Int32) × (Nat → Int32) × (Nat → Int32) × (Nat → Int32) × (Nat → Int32) × (Nat → Int32) => [(a_0, .inr (12, [.int 0, .ref a_1, .ref a_2, .ref a_3, .ref a_4, .ref a_5, .int 0, .int y13_0_7_812, .int y13_0_8_813, .int y13_0_9_814, .int y13_0_10_815, .long y13_0_11_816, .int y13_0_12_817, .int y13_0_13_818, .int y13_0_12_817, .int n855, .ref a_6, .ref a_7, .ref a_8, .ref a_9, .ref a_10, .ref a_11, .ref a_12, .ref a_13, .ref a_14, .ref a_15, .ref a_16, .ref a_17, .ref a_18, .int i_10, .int i_11, .int i_12, .int i_13, .int i_14, .int i_15, .ref a_19, .int i_16, .ref a_20])), (a_5, .inl (cy 0, 600, .inl f_0)), (a_6, .inl (cy 1, 5, .inl (mm_g [w13_2_4_819, i_18, i_19, i_20, w13_2_4_819]))), (a_7, .inl (cy 1, 30, .inl (mm_g [w13_3_24_820, w13_3_25_821, w13_3_26_822, w13_3_27_823, w13_3_28_824, 0, i_28, i_29, i_30, i_31, i_32, i_33, i_34, i_35, i_36, i_37, i_38, i_39, i_40, i_41, i_42, i_43, i_44, i_45, w13_3_24_820, w13_3_25_821, w13_3_26_822, w13_3_27_823, w13_3_28_824, 0]))), (a_8, .inl (cy 1, 90, .inl u.1)), (a_9, .inl (cy 1, 15, .inl u.2.1)), (a_10, .inl (cy 1, 1050, .inl u.2.2.1)), (a_11, .inl (cy 1, 30, .inl u.2.2.2.1)), (a_12, .inl (cy 1, 240, .inl u.2.2.2.2.1)), (a_13, .inl (cy 1, 450, .inl u.2.2.2.2.2))]) [0, 2, 3, 4, 5, 6, 7, 8, 9] [1] (n := 10) (fun _ => rfl) (by decide +kernel) (by decide +kernel) rfl (fun _ => rfl) (wr := [(a_5, .inl (cy 0, 600, .inl f_0))]) rfl (fun _ => rfl) (fun _ => rfl) ?_
              clear hP hD hS
              clear H locs
              intro u
              obtain ⟨n857, n858, n859, n860, n861, n862⟩ := u
              intro H locs hw (hP : va_P G vwCl [(a_0, .inr (12, [.int 0, .ref a_1, .ref a_2, .ref a_3, .ref a_4, .ref a_5, .int 0, .int y13_0_7_812, .int y13_0_8_813, .int y13_0_9_814, .int y13_0_10_815, .long y13_0_11_816, .int y13_0_12_817, .int y13_0_13_818, .int y13_0_12_817, .int n855, .ref a_6, .ref a_7, .ref a_8, .ref a_9, .ref a_10, .ref a_11, .ref a_12, .ref a_13, .ref a_14, .ref a_15, .ref a_16, .ref a_17, .ref a_18, .int i_10, .int i_11, .int i_12, .int i_13, .int i_14, .int i_15, .ref a_19, .int i_16, .ref a_20])), (a_5, .inl (cy 0, 600, .inl f_0)), (a_6, .inl (cy 1, 5, .inl (mm_g [w13_2_4_819, i_18, i_19, i_20, w13_2_4_819]))), (a_7, .inl (cy 1, 30, .inl (mm_g [w13_3_24_820, w13_3_25_821, w13_3_26_822, w13_3_27_823, w13_3_28_824, 0, i_28, i_29, i_30, i_31, i_32, i_33, i_34, i_35, i_36, i_37, i_38, i_39, i_40, i_41, i_42, i_43, i_44, i_45, w13_3_24_820, w13_3_25_821, w13_3_26_822, w13_3_27_823, w13_3_28_824, 0]))), (a_8, .inl (cy 1, 90, .inl n857)), (a_9, .inl (cy 1, 15, .inl n858)), (a_10, .inl (cy 1, 1050, .inl n859)), (a_11, .inl (cy 1, 30, .inl n860)), (a_12, .inl (cy 1, 240, .inl n861)), (a_13, .inl (cy 1, 450, .inl n862))] H) (hD : va_D A [(a_0, .inr (12, [.int 0, .ref a_1, .ref a_2, .ref a_3, .ref a_4, .ref a_5, .int 0, .int y13_0_7_812, .int y13_0_8_813, .int y13_0_9_814, .int y13_0_10_815, .long y13_0_11_816, .int y13_0_12_817, .int y13_0_13_818, .int y13_0_12_817, .int n855, .ref a_6, .ref a_7, .ref a_8, .ref a_9, .ref a_10, .ref a_11, .ref a_12, .ref a_13, .ref a_14, .ref a_15, .ref a_16, .ref a_17, .ref a_18, .int i_10, .int i_11, .int i_12, .int i_13, .int i_14, .int i_15, .ref a_19, .int i_16, .ref a_20])), (a_5, .inl (cy 0, 600, .inl f_0)), (a_6, .inl (cy 1, 5, .inl (mm_g [w13_2_4_819, i_18, i_19, i_20, w13_2_4_819]))), (a_7, .inl (cy 1, 30, .inl (mm_g [w13_3_24_820, w13_3_25_821, w13_3_26_822, w13_3_27_823, w13_3_28_824, 0, i_28, i_29, i_30, i_31, i_32, i_33, i_34, i_35, i_36, i_37, i_38, i_39, i_40, i_41, i_42, i_43, i_44, i_45, w13_3_24_820, w13_3_25_821, w13_3_26_822, w13_3_27_823, w13_3_28_824, 0]))), (a_8, .inl (cy 1, 90, .inl n857)), (a_9, .inl (cy 1, 15, .inl n858)), (a_10, .inl (cy 1, 1050, .inl n859)), (a_11, .inl (cy 1, 30, .inl n860)), (a_12, .inl (cy 1, 240, .inl n861)), (a_13, .inl (cy 1, 450, .inl n862))]) hS
              obtain ⟨w863, w864, w865, w866, w867, w868, w869, w870, w871, w872, w873, w874, w875, w876, w877, w878, w879, w880⟩ := hw
              refine lv_aload_n hx hb dX12_book_124 rfl (lv_at hl 0 rfl) ?_
              refine va_get (D := G) (ci := 12) (v := .ref a_6) (C := RX12) (T := TX12) (N := 38) hx hb hts (mm_i inlX12) hown hK.1 hP 0 rfl rfl 16 (by decide) (mm_h hts mm_w148) (fun _ h9 => h9) rfl dX12_book_125 ?_
              refine lv_iconst (v := 0) hx hb dX12_book_128 (by decide) ?_
              refine va_iald hx hb hK.1 hP 2 1 rfl rfl (mm_in mm_k0 (by decide)) dX12_book_129 ?_
              refine W.eq (g2 := F0 m 130 ls [.int w13_2_4_819]) rfl ?_
              subst hAe
              rw [hQ]
              exact W.iret (v := w13_2_4_819) hx hb hr (fun t ht hW => ⟨⟨w13_2_4_819, (y13_0_7_812, y13_0_8_813, y13_0_9_814, y13_0_10_815, y13_0_11_816, y13_0_12_817, y13_0_13_818, y13_0_12_817, n855, w13_2_4_819, w13_2_4_819, w13_3_24_820, w13_3_25_821, w13_3_26_822, w13_3_27_823, w13_3_28_824, 0, w13_3_24_820, w13_3_25_821, w13_3_26_822, w13_3_27_823, w13_3_28_824, n857, n858, n859, n860, n861, n862), rfl, ⟨ry13_0_7_812, (mm_wk q854 (by decide)), ry13_0_9_814, (mm_wk w845 (by decide)), (mm_wk w845 (by decide)), (mm_wk q851 (by decide)), (mm_wk q851 (by decide)), rw13_3_24_820, rw13_3_25_821, rw13_3_26_822, rw13_3_27_823, rw13_3_28_824, (mm_wk mm_k0 (by decide)), rw13_3_24_820, rw13_3_25_821, rw13_3_26_822, rw13_3_27_823, rw13_3_28_824, w863, w864, w865, w866, w867, w868, w869, w870, w871, w841, w872, w873, w874, w875, w876, w877, w878, w879, w880, (mm_wk q851 (by decide))⟩, by rw [ht]; exact hP, hK.warm hW, hD⟩, hS.F ht⟩) hS.2.2 dX12_book_130
            · have q881 := mm_neL (lo := 1) (mm_ne c856) w845 mm_k0 (by decide) (by decide)
              exact mm_no q881 (by decide)
          · have q882 := mm_neL (lo := 1) (mm_ne c853) ry13_0_8_813 mm_k0 (by decide) (by decide)
            refine lv_aload_n hx hb dX12_book_27 rfl (lv_at hl 0 rfl) ?_
            refine va_get (D := G) (ci := 12) (v := .ref a_6) (C := RX12) (T := TX12) (N := 38) hx hb hts (mm_i inlX12) hown hK.1 hP 0 rfl rfl 16 (by decide) (mm_h hts mm_w148) (fun _ h9 => h9) rfl dX12_book_28 ?_
            refine lv_iconst (v := 4) hx hb dX12_book_31 (by decide) ?_
            refine va_iald hx hb hK.1 hP 2 1 rfl rfl (mm_in mm_k4 (by decide)) dX12_book_32 ?_
            refine W.eq (g2 := F0 m 33 ls [.int w13_2_4_819]) rfl ?_
            refine lv_if_ne (tgt := 76) hx hb dX12_book_33 (by decide) (fun c883 => ?_) (fun c883 => ?_)
            · have q884 := mm_neL (lo := 1) (mm_ne c883) q851 mm_k0 (by decide) (by decide)
              have q885 := mm_leR w850 q884 ry13_0_9_814
              have q886 := mm_leR w830 q885 ry13_0_7_812
              have q887 := mm_leR w831 q886 h0
              refine lv_aload_n hx hb dX12_book_76 rfl (lv_at hl 0 rfl) ?_
              refine mm_finv (va_runV (As := []) (rest := []) ⟨hx, hb, hml, hown, hts⟩ (M89_X12_lineHere l G cy H.size a_0 0 a_1 a_2 a_3 a_4 a_5 i_1 y13_0_7_812 y13_0_8_813 y13_0_9_814 y13_0_10_815 y13_0_11_816 y13_0_12_817 y13_0_13_818 i_8 i_9 a_6 a_7 a_8 a_9 a_10 a_11 a_12 a_13 a_14 a_15 a_16 a_17 a_18 i_10 i_11 i_12 i_13 i_14 i_15 a_19 i_16 a_20 f_0 i_22 i_23 i_24 i_25 i_26 i_27 i_28 i_29 i_30 i_31 i_32 i_33 i_34 i_35 i_36 i_37 i_38 i_39 i_40 i_41 i_42 i_43 i_44 i_45 w13_3_24_820 w13_3_25_821 w13_3_26_822 w13_3_27_823 w13_3_28_824 0 z13_4_825 z13_5_826 z13_6_827 z13_7_828 z13_8_829 (mm_wk q887 (by decide)) (mm_wk q886 (by decide)) (mm_wk q882 (by decide)) (mm_wk q885 (by decide)) (mm_wk w845 (by decide)) h5 h11 h12 h13 h14 h15 h16 h17 h18 h19 h20 h21 h22 h23 h24 h25 h26 h27 h28 h29 h30 h31 h32 h33 h34 rw13_3_24_820 rw13_3_25_821 rw13_3_26_822 rw13_3_27_823 rw13_3_28_824 (mm_wk mm_k0 (by decide)) rz13_4_825 rz13_5_826 rz13_6_827 rz13_7_828 rz13_8_829 (mm_rls_fr h47 w834 w835 (by decide)) (mm_txs_fr h48 w836 w837 (by decide)) (mm_rls_fr h51 w834 w835 (by decide)) (mm_txs_fr h52 w836 w837 (by decide)) (mm_rls_fr h55 w834 w835 (by decide)) (mm_txs_fr h56 w836 w837 (by decide)) (mm_rls_fr h59 w834 w835 (by decide)) (mm_txs_fr h60 w836 w837 (by decide)) w830 w831 w832 w838 w839) (cwV 0 hts (mm_gV mm_w495 mm_w496 mm_w497 mm_w5 mm_w498) rfl rfl rfl hd_X12_lineHere ⟨by rw [hRf]; exact Nat.le_of_ble_eq_true rfl, by rw [hRl]; exact Nat.le_of_ble_eq_true rfl⟩) (mm_preV hK hZ hS hA hP hD [0, 1, 3, 4, 5, 6, 7, 8] rfl rfl 0 rfl rfl rfl) rfl rfl hl.1 rfl (lv_room (Nat.le_of_ble_eq_true rfl)) dX12_book_77 ⟨by rw [hRc]; exact Nat.le_of_ble_eq_true rfl, by rw [hRs]; exact Nat.le_of_ble_eq_true rfl⟩) hP hD hS hA (fun u : Int32 × Int32 × Int32 × Int32 × Int64 × Int32 × Int32 × Int32 × Int32 × Int32 × (Nat → Int32) × (Nat → Int32) × (Nat → Int32) × (Nat → Int32) × (Nat → Int32) => [(a_0, .inr (12, [.int 0, .ref a_1, .ref a_2, .ref a_3, .ref a_4, .ref a_5, .int i_1, .int u.1, .int u.2.1, .int u.2.2.1, .int u.2.2.2.1, .long u.2.2.2.2.1, .int u.2.2.2.2.2.1, .int u.2.2.2.2.2.2.1, .int i_8, .int i_9, .ref a_6, .ref a_7, .ref a_8, .ref a_9, .ref a_10, .ref a_11, .ref a_12, .ref a_13, .ref a_14, .ref a_15, .ref a_16, .ref a_17, .ref a_18, .int i_10, .int i_11, .int i_12, .int i_13, .int i_14, .int i_15, .ref a_19, .int i_16, .ref a_20])), (a_5, .inl (cy 0, 600, .inl f_0)), (a_6, .inl (cy 1, 5, .inl (mm_g [i_17, i_18, i_19, i_20, w13_2_4_819]))), (a_7, .inl (cy 1, 30, .inl (mm_g [i_22, i_23, i_24, i_25, i_26, i_27, i_28, i_29, i_30, i_31, i_32, i_33, i_34, i_35, i_36, i_37, i_38, i_39, i_40, i_41, i_42, i_43, i_44, i_45, w13_3_24_820, w13_3_25_821, u.2.2.2.2.2.2.2.1, u.2.2.2.2.2.2.2.2.1, u.2.2.2.2.2.2.2.2.2.1, 0]))), (a_8, .inl (cy 1, 90, .inl u.2.2.2.2.2.2.2.2.2.2.1)), (a_9, .inl (cy 1, 15, .inl u.2.2.2.2.2.2.2.2.2.2.2.1)), (a_10, .inl (cy 1, 1050, .inl u.2.2.2.2.2.2.2.2.2.2.2.2.1)), (a_11, .inl (cy 1, 30, .inl u.2.2.2.2.2.2.2.2.2.2.2.2.2.1)), (a_12, .inl (cy 1, 240, .inl u.2.2.2.2.2.2.2.2.2.2.2.2.2.2)), (a_13, .inl (cy 1, 450, .inl f_6))]) [0, 1, 3, 4, 5, 6, 7, 8] [2, 9] (n := 10) (fun _ => rfl) (by decide +kernel) (by decide +kernel) rfl (fun _ => rfl) (wr := [(a_6, .inl (cy 1, 5, .inl (mm_g [i_17, i_18, i_19, i_20, w13_2_4_819]))), (a_13, .inl (cy 1, 450, .inl f_6))]) rfl (fun _ => rfl) (fun _ => rfl) ?_
              clear hP hD hS
              clear H locs
              intro u
              obtain ⟨n888, n889, n890, n891, n892, n893, n894, n895, n896, n897, n898, n899, n900, n901, n902⟩ := u
              intro H locs hw (hP : va_P G vwCl [(a_0, .inr (12, [.int 0, .ref a_1, .ref a_2, .ref a_3, .ref a_4, .ref a_5, .int i_1, .int n888, .int n889, .int n890, .int n891, .long n892, .int n893, .int n894, .int i_8, .int i_9, .ref a_6, .ref a_7, .ref a_8, .ref a_9, .ref a_10, .ref a_11, .ref a_12, .ref a_13, .ref a_14, .ref a_15, .ref a_16, .ref a_17, .ref a_18, .int i_10, .int i_11, .int i_12, .int i_13, .int i_14, .int i_15, .ref a_19, .int i_16, .ref a_20])), (a_5, .inl (cy 0, 600, .inl f_0)), (a_6, .inl (cy 1, 5, .inl (mm_g [i_17, i_18, i_19, i_20, w13_2_4_819]))), (a_7, .inl (cy 1, 30, .inl (mm_g [i_22, i_23, i_24, i_25, i_26, i_27, i_28, i_29, i_30, i_31, i_32, i_33, i_34, i_35, i_36, i_37, i_38, i_39, i_40, i_41, i_42, i_43, i_44, i_45, w13_3_24_820, w13_3_25_821, n895, n896, n897, 0]))), (a_8, .inl (cy 1, 90, .inl n898)), (a_9, .inl (cy 1, 15, .inl n899)), (a_10, .inl (cy 1, 1050, .inl n900)), (a_11, .inl (cy 1, 30, .inl n901)), (a_12, .inl (cy 1, 240, .inl n902)), (a_13, .inl (cy 1, 450, .inl f_6))] H) (hD : va_D A [(a_0, .inr (12, [.int 0, .ref a_1, .ref a_2, .ref a_3, .ref a_4, .ref a_5, .int i_1, .int n888, .int n889, .int n890, .int n891, .long n892, .int n893, .int n894, .int i_8, .int i_9, .ref a_6, .ref a_7, .ref a_8, .ref a_9, .ref a_10, .ref a_11, .ref a_12, .ref a_13, .ref a_14, .ref a_15, .ref a_16, .ref a_17, .ref a_18, .int i_10, .int i_11, .int i_12, .int i_13, .int i_14, .int i_15, .ref a_19, .int i_16, .ref a_20])), (a_5, .inl (cy 0, 600, .inl f_0)), (a_6, .inl (cy 1, 5, .inl (mm_g [i_17, i_18, i_19, i_20, w13_2_4_819]))), (a_7, .inl (cy 1, 30, .inl (mm_g [i_22, i_23, i_24, i_25, i_26, i_27, i_28, i_29, i_30, i_31, i_32, i_33, i_34, i_35, i_36, i_37, i_38, i_39, i_40, i_41, i_42, i_43, i_44, i_45, w13_3_24_820, w13_3_25_821, n895, n896, n897, 0]))), (a_8, .inl (cy 1, 90, .inl n898)), (a_9, .inl (cy 1, 15, .inl n899)), (a_10, .inl (cy 1, 1050, .inl n900)), (a_11, .inl (cy 1, 30, .inl n901)), (a_12, .inl (cy 1, 240, .inl n902)), (a_13, .inl (cy 1, 450, .inl f_6))]) hS
              obtain ⟨w903, w904, w905, w906, w907, w908, w909, w910, w911, w912, w913, w914, w915, w916, w917, w918, w919, w920, w921, w922, w923, w924, w925, w926, w927, w928, w929, w930, w931, w932⟩ := hw
              have q933 := mm_leR w926 q885 w905
              have q934 := mm_leR w923 q933 w903
              refine lv_aload_n hx hb dX12_book_80 rfl (lv_at hl 0 rfl) ?_
              refine mm_finir (va_runV (As := []) (rest := []) ⟨hx, hb, hml, hown, hts⟩ (M24_X12_isGood l G cy H.size a_0 0 a_1 a_2 a_3 a_4 a_5 i_1 n888 n889 n890 n891 n892 n893 n894 i_8 i_9 a_6 a_7 a_8 a_9 a_10 a_11 a_12 a_13 a_14 a_15 a_16 a_17 a_18 i_10 i_11 i_12 i_13 i_14 i_15 a_19 i_16 a_20 w906) (cwV 0 hts (mm_gV mm_w467 mm_w468 mm_w469 mm_w5 mm_w470) rfl rfl rfl hd_X12_isGood ⟨by rw [hRf]; exact Nat.le_of_ble_eq_true rfl, by rw [hRl]; exact Nat.le_of_ble_eq_true rfl⟩) (mm_preV hK hZ hS hA hP hD [0] rfl rfl 0 rfl rfl rfl) rfl rfl hl.1 rfl (lv_room (Nat.le_of_ble_eq_true rfl)) dX12_book_81 ⟨by rw [hRc]; exact Nat.le_of_ble_eq_true rfl, by rw [hRs]; exact Nat.le_of_ble_eq_true rfl⟩) hP hD hS hA [0] rfl (fun _ => rfl) ?_
              clear hP hD hS
              clear H locs
              intro v935 _u H locs hw hP hD hS
              rcases hw with ⟨rfl, w936⟩ | ⟨rfl, w937⟩
              · refine lv_if_eq (tgt := 91) hx hb dX12_book_84 (by decide) (fun c938 => ?_) (fun c938 => ?_)
                · refine lv_aload_n hx hb dX12_book_91 rfl (lv_at hl 0 rfl) ?_
                  refine va_get (D := G) (ci := 12) (v := .ref a_6) (C := RX12) (T := TX12) (N := 38) hx hb hts (mm_i inlX12) hown hK.1 hP 0 rfl rfl 16 (by decide) (mm_h hts mm_w148) (fun _ h9 => h9) rfl dX12_book_92 ?_
                  refine lv_iconst (v := 4) hx hb dX12_book_95 (by decide) ?_
                  refine lv_dup2_11 hx hb dX12_book_96 rfl rfl ?_
                  refine va_iald hx hb hK.1 hP 2 1 rfl rfl (mm_in mm_k4 (by decide)) dX12_book_97 ?_
                  refine W.eq (g2 := F0 m 98 ls [.int w13_2_4_819, .int 4, .ref a_6]) rfl ?_
                  refine lv_iconst (v := 1) hx hb dX12_book_98 (by decide) ?_
                  refine lv_iadd hx hb dX12_book_99 ?_
                  refine lv_topi (fun v939 ev939 => ?_)
                  have rv939 : mm_rg v939 2 601 := mm_add ev939 q884 mm_k1 (by decide) (by decide)
                  have tv939 := mm_addEc ev939 q884 mm_k1 (by decide) (k := 1) (by decide)
                  refine va_iast hx hb hK.1 hP hD hS 2 1 rfl rfl (mm_in mm_k4 (by decide)) dX12_book_100 ?_
                  clear hP hD hS
                  clear H locs
                  rw [show upd (mm_g [i_17, i_18, i_19, i_20, w13_2_4_819]) (4 : Int32).toNatClampNeg v939 = (mm_g [i_17, i_18, i_19, i_20, v939]) from mm_gs (by decide) rfl]
                  intro H locs (hP : va_P G vwCl [(a_0, .inr (12, [.int 0, .ref a_1, .ref a_2, .ref a_3, .ref a_4, .ref a_5, .int i_1, .int n888, .int n889, .int n890, .int n891, .long n892, .int n893, .int n894, .int i_8, .int i_9, .ref a_6, .ref a_7, .ref a_8, .ref a_9, .ref a_10, .ref a_11, .ref a_12, .ref a_13, .ref a_14, .ref a_15, .ref a_16, .ref a_17, .ref a_18, .int i_10, .int i_11, .int i_12, .int i_13, .int i_14, .int i_15, .ref a_19, .int i_16, .ref a_20])), (a_5, .inl (cy 0, 600, .inl f_0)), (a_6, .inl (cy 1, 5, .inl (mm_g [i_17, i_18, i_19, i_20, v939]))), (a_7, .inl (cy 1, 30, .inl (mm_g [i_22, i_23, i_24, i_25, i_26, i_27, i_28, i_29, i_30, i_31, i_32, i_33, i_34, i_35, i_36, i_37, i_38, i_39, i_40, i_41, i_42, i_43, i_44, i_45, w13_3_24_820, w13_3_25_821, n895, n896, n897, 0]))), (a_8, .inl (cy 1, 90, .inl n898)), (a_9, .inl (cy 1, 15, .inl n899)), (a_10, .inl (cy 1, 1050, .inl n900)), (a_11, .inl (cy 1, 30, .inl n901)), (a_12, .inl (cy 1, 240, .inl n902)), (a_13, .inl (cy 1, 450, .inl f_6))] H) (hD : va_D A [(a_0, .inr (12, [.int 0, .ref a_1, .ref a_2, .ref a_3, .ref a_4, .ref a_5, .int i_1, .int n888, .int n889, .int n890, .int n891, .long n892, .int n893, .int n894, .int i_8, .int i_9, .ref a_6, .ref a_7, .ref a_8, .ref a_9, .ref a_10, .ref a_11, .ref a_12, .ref a_13, .ref a_14, .ref a_15, .ref a_16, .ref a_17, .ref a_18, .int i_10, .int i_11, .int i_12, .int i_13, .int i_14, .int i_15, .ref a_19, .int i_16, .ref a_20])), (a_5, .inl (cy 0, 600, .inl f_0)), (a_6, .inl (cy 1, 5, .inl (mm_g [i_17, i_18, i_19, i_20, v939]))), (a_7, .inl (cy 1, 30, .inl (mm_g [i_22, i_23, i_24, i_25, i_26, i_27, i_28, i_29, i_30, i_31, i_32, i_33, i_34, i_35, i_36, i_37, i_38, i_39, i_40, i_41, i_42, i_43, i_44, i_45, w13_3_24_820, w13_3_25_821, n895, n896, n897, 0]))), (a_8, .inl (cy 1, 90, .inl n898)), (a_9, .inl (cy 1, 15, .inl n899)), (a_10, .inl (cy 1, 1050, .inl n900)), (a_11, .inl (cy 1, 30, .inl n901)), (a_12, .inl (cy 1, 240, .inl n902)), (a_13, .inl (cy 1, 450, .inl f_6))]) hS
                  refine lv_goto (tgt := 13) hx hb dX12_book_101 (by decide) ?_
                  exact ih13 n888 n889 n890 n891 n892 n893 n894 v939 w13_3_24_820 w13_3_25_821 n895 n896 n897 n898 n899 n900 n901 n902 (mm_wk q934 (by decide)) w904 (mm_wk q933 (by decide)) (mm_wk w936 (by decide)) (mm_wk rv939 (by decide)) rw13_3_24_820 rw13_3_25_821 w907 w908 w909 w910 w911 w912 w913 w914 w923 w924 w925 (mm_lp_n w936 (by decide)) (mm_fr_t w834 w929) (mm_fr_t w835 w930) (mm_fr_t w836 w931) (mm_fr_t w837 w932) w927 w928 (mm_acs_z mm_k0 (by decide)) (mm_tl_1 rv939 (by decide)) (mm_bm hm13 w845 (mm_go_n w936 (by decide)) q933) H locs hP hD hS ls (lv_sub hl [0] rfl)
                · have q940 := mm_neL (lo := 1) (mm_ne c938) mm_k0 mm_k0 (by decide) (by decide)
                  exact mm_no q940 (by decide)
              · refine lv_if_eq (tgt := 91) hx hb dX12_book_84 (by decide) (fun c941 => ?_) (fun c941 => ?_)
                · exact mm_eqN c941.symm mm_k0 mm_k1 (by decide)
                · refine lv_aload_n hx hb dX12_book_87 rfl (lv_at hl 0 rfl) ?_
                  refine mm_finv (va_runV (As := []) (rest := []) ⟨hx, hb, hml, hown, hts⟩ (M46_X12_ends l G cy H.size a_0 0 a_1 a_2 a_3 a_4 a_5 i_1 n888 n889 n890 n891 n892 n893 n894 i_8 i_9 a_6 a_7 a_8 a_9 a_10 a_11 a_12 a_13 a_14 a_15 a_16 a_17 a_18 i_10 i_11 i_12 i_13 i_14 i_15 a_19 i_16 a_20 f_0 (mm_wk q887 (by decide)) (mm_wk q934 (by decide)) w904 (mm_wk q933 (by decide)) (mm_wk w937 (by decide)) h5 w923 w924 w925) (cwV 0 hts (mm_gV mm_w544 mm_w545 mm_w546 mm_w5 mm_w547) rfl rfl rfl hd_X12_ends ⟨by rw [hRf]; exact Nat.le_of_ble_eq_true rfl, by rw [hRl]; exact Nat.le_of_ble_eq_true rfl⟩) (mm_preV hK hZ hS hA hP hD [0, 1] rfl rfl 0 rfl rfl rfl) rfl rfl hl.1 rfl (lv_room (Nat.le_of_ble_eq_true rfl)) dX12_book_88 ⟨by rw [hRc]; exact Nat.le_of_ble_eq_true rfl, by rw [hRs]; exact Nat.le_of_ble_eq_true rfl⟩) hP hD hS hA (fun u : Int32 × Int32 × Int32 × Int32 × Int64 × Int32 × Int32 => [(a_0, .inr (12, [.int 0, .ref a_1, .ref a_2, .ref a_3, .ref a_4, .ref a_5, .int i_1, .int u.1, .int u.2.1, .int u.2.2.1, .int u.2.2.2.1, .long u.2.2.2.2.1, .int u.2.2.2.2.2.1, .int u.2.2.2.2.2.2, .int i_8, .int i_9, .ref a_6, .ref a_7, .ref a_8, .ref a_9, .ref a_10, .ref a_11, .ref a_12, .ref a_13, .ref a_14, .ref a_15, .ref a_16, .ref a_17, .ref a_18, .int i_10, .int i_11, .int i_12, .int i_13, .int i_14, .int i_15, .ref a_19, .int i_16, .ref a_20])), (a_5, .inl (cy 0, 600, .inl f_0)), (a_6, .inl (cy 1, 5, .inl (mm_g [i_17, i_18, i_19, i_20, w13_2_4_819]))), (a_7, .inl (cy 1, 30, .inl (mm_g [i_22, i_23, i_24, i_25, i_26, i_27, i_28, i_29, i_30, i_31, i_32, i_33, i_34, i_35, i_36, i_37, i_38, i_39, i_40, i_41, i_42, i_43, i_44, i_45, w13_3_24_820, w13_3_25_821, n895, n896, n897, 0]))), (a_8, .inl (cy 1, 90, .inl n898)), (a_9, .inl (cy 1, 15, .inl n899)), (a_10, .inl (cy 1, 1050, .inl n900)), (a_11, .inl (cy 1, 30, .inl n901)), (a_12, .inl (cy 1, 240, .inl n902)), (a_13, .inl (cy 1, 450, .inl f_6))]) [0, 1] [2, 3, 4, 5, 6, 7, 8, 9] (n := 10) (fun _ => rfl) (by decide +kernel) (by decide +kernel) rfl (fun _ => rfl) (wr := [(a_6, .inl (cy 1, 5, .inl (mm_g [i_17, i_18, i_19, i_20, w13_2_4_819]))), (a_7, .inl (cy 1, 30, .inl (mm_g [i_22, i_23, i_24, i_25, i_26, i_27, i_28, i_29, i_30, i_31, i_32, i_33, i_34, i_35, i_36, i_37, i_38, i_39, i_40, i_41, i_42, i_43, i_44, i_45, w13_3_24_820, w13_3_25_821, n895, n896, n897, 0]))), (a_8, .inl (cy 1, 90, .inl n898)), (a_9, .inl (cy 1, 15, .inl n899)), (a_10, .inl (cy 1, 1050, .inl n900)), (a_11, .inl (cy 1, 30, .inl n901)), (a_12, .inl (cy 1, 240, .inl n902)), (a_13, .inl (cy 1, 450, .inl f_6))]) rfl (fun _ => rfl) (fun _ => rfl) ?_
                  clear hP hD hS
                  clear H locs
                  intro u
                  obtain ⟨n942, n943, n944, n945, n946, n947, n948⟩ := u
                  intro H locs hw (hP : va_P G vwCl [(a_0, .inr (12, [.int 0, .ref a_1, .ref a_2, .ref a_3, .ref a_4, .ref a_5, .int i_1, .int n942, .int n943, .int n944, .int n945, .long n946, .int n947, .int n948, .int i_8, .int i_9, .ref a_6, .ref a_7, .ref a_8, .ref a_9, .ref a_10, .ref a_11, .ref a_12, .ref a_13, .ref a_14, .ref a_15, .ref a_16, .ref a_17, .ref a_18, .int i_10, .int i_11, .int i_12, .int i_13, .int i_14, .int i_15, .ref a_19, .int i_16, .ref a_20])), (a_5, .inl (cy 0, 600, .inl f_0)), (a_6, .inl (cy 1, 5, .inl (mm_g [i_17, i_18, i_19, i_20, w13_2_4_819]))), (a_7, .inl (cy 1, 30, .inl (mm_g [i_22, i_23, i_24, i_25, i_26, i_27, i_28, i_29, i_30, i_31, i_32, i_33, i_34, i_35, i_36, i_37, i_38, i_39, i_40, i_41, i_42, i_43, i_44, i_45, w13_3_24_820, w13_3_25_821, n895, n896, n897, 0]))), (a_8, .inl (cy 1, 90, .inl n898)), (a_9, .inl (cy 1, 15, .inl n899)), (a_10, .inl (cy 1, 1050, .inl n900)), (a_11, .inl (cy 1, 30, .inl n901)), (a_12, .inl (cy 1, 240, .inl n902)), (a_13, .inl (cy 1, 450, .inl f_6))] H) (hD : va_D A [(a_0, .inr (12, [.int 0, .ref a_1, .ref a_2, .ref a_3, .ref a_4, .ref a_5, .int i_1, .int n942, .int n943, .int n944, .int n945, .long n946, .int n947, .int n948, .int i_8, .int i_9, .ref a_6, .ref a_7, .ref a_8, .ref a_9, .ref a_10, .ref a_11, .ref a_12, .ref a_13, .ref a_14, .ref a_15, .ref a_16, .ref a_17, .ref a_18, .int i_10, .int i_11, .int i_12, .int i_13, .int i_14, .int i_15, .ref a_19, .int i_16, .ref a_20])), (a_5, .inl (cy 0, 600, .inl f_0)), (a_6, .inl (cy 1, 5, .inl (mm_g [i_17, i_18, i_19, i_20, w13_2_4_819]))), (a_7, .inl (cy 1, 30, .inl (mm_g [i_22, i_23, i_24, i_25, i_26, i_27, i_28, i_29, i_30, i_31, i_32, i_33, i_34, i_35, i_36, i_37, i_38, i_39, i_40, i_41, i_42, i_43, i_44, i_45, w13_3_24_820, w13_3_25_821, n895, n896, n897, 0]))), (a_8, .inl (cy 1, 90, .inl n898)), (a_9, .inl (cy 1, 15, .inl n899)), (a_10, .inl (cy 1, 1050, .inl n900)), (a_11, .inl (cy 1, 30, .inl n901)), (a_12, .inl (cy 1, 240, .inl n902)), (a_13, .inl (cy 1, 450, .inl f_6))]) hS
                  obtain ⟨w949, w950, w951, w952, w953, w954, w955, w956, w957⟩ := hw
                  have q958 := mm_leR w956 q933 w951
                  have q959 := mm_leR w953 q958 w949
                  refine lv_aload_n hx hb dX12_book_91 rfl (lv_at hl 0 rfl) ?_
                  refine va_get (D := G) (ci := 12) (v := .ref a_6) (C := RX12) (T := TX12) (N := 38) hx hb hts (mm_i inlX12) hown hK.1 hP 0 rfl rfl 16 (by decide) (mm_h hts mm_w148) (fun _ h9 => h9) rfl dX12_book_92 ?_
                  refine lv_iconst (v := 4) hx hb dX12_book_95 (by decide) ?_
                  refine lv_dup2_11 hx hb dX12_book_96 rfl rfl ?_
                  refine va_iald hx hb hK.1 hP 2 1 rfl rfl (mm_in mm_k4 (by decide)) dX12_book_97 ?_
                  refine W.eq (g2 := F0 m 98 ls [.int w13_2_4_819, .int 4, .ref a_6]) rfl ?_
                  refine lv_iconst (v := 1) hx hb dX12_book_98 (by decide) ?_
                  refine lv_iadd hx hb dX12_book_99 ?_
                  refine lv_topi (fun v960 ev960 => ?_)
                  have rv960 : mm_rg v960 2 601 := mm_add ev960 q884 mm_k1 (by decide) (by decide)
                  have tv960 := mm_addEc ev960 q884 mm_k1 (by decide) (k := 1) (by decide)
                  refine va_iast hx hb hK.1 hP hD hS 2 1 rfl rfl (mm_in mm_k4 (by decide)) dX12_book_100 ?_
                  clear hP hD hS
                  clear H locs
                  rw [show upd (mm_g [i_17, i_18, i_19, i_20, w13_2_4_819]) (4 : Int32).toNatClampNeg v960 = (mm_g [i_17, i_18, i_19, i_20, v960]) from mm_gs (by decide) rfl]
                  intro H locs (hP : va_P G vwCl [(a_0, .inr (12, [.int 0, .ref a_1, .ref a_2, .ref a_3, .ref a_4, .ref a_5, .int i_1, .int n942, .int n943, .int n944, .int n945, .long n946, .int n947, .int n948, .int i_8, .int i_9, .ref a_6, .ref a_7, .ref a_8, .ref a_9, .ref a_10, .ref a_11, .ref a_12, .ref a_13, .ref a_14, .ref a_15, .ref a_16, .ref a_17, .ref a_18, .int i_10, .int i_11, .int i_12, .int i_13, .int i_14, .int i_15, .ref a_19, .int i_16, .ref a_20])), (a_5, .inl (cy 0, 600, .inl f_0)), (a_6, .inl (cy 1, 5, .inl (mm_g [i_17, i_18, i_19, i_20, v960]))), (a_7, .inl (cy 1, 30, .inl (mm_g [i_22, i_23, i_24, i_25, i_26, i_27, i_28, i_29, i_30, i_31, i_32, i_33, i_34, i_35, i_36, i_37, i_38, i_39, i_40, i_41, i_42, i_43, i_44, i_45, w13_3_24_820, w13_3_25_821, n895, n896, n897, 0]))), (a_8, .inl (cy 1, 90, .inl n898)), (a_9, .inl (cy 1, 15, .inl n899)), (a_10, .inl (cy 1, 1050, .inl n900)), (a_11, .inl (cy 1, 30, .inl n901)), (a_12, .inl (cy 1, 240, .inl n902)), (a_13, .inl (cy 1, 450, .inl f_6))] H) (hD : va_D A [(a_0, .inr (12, [.int 0, .ref a_1, .ref a_2, .ref a_3, .ref a_4, .ref a_5, .int i_1, .int n942, .int n943, .int n944, .int n945, .long n946, .int n947, .int n948, .int i_8, .int i_9, .ref a_6, .ref a_7, .ref a_8, .ref a_9, .ref a_10, .ref a_11, .ref a_12, .ref a_13, .ref a_14, .ref a_15, .ref a_16, .ref a_17, .ref a_18, .int i_10, .int i_11, .int i_12, .int i_13, .int i_14, .int i_15, .ref a_19, .int i_16, .ref a_20])), (a_5, .inl (cy 0, 600, .inl f_0)), (a_6, .inl (cy 1, 5, .inl (mm_g [i_17, i_18, i_19, i_20, v960]))), (a_7, .inl (cy 1, 30, .inl (mm_g [i_22, i_23, i_24, i_25, i_26, i_27, i_28, i_29, i_30, i_31, i_32, i_33, i_34, i_35, i_36, i_37, i_38, i_39, i_40, i_41, i_42, i_43, i_44, i_45, w13_3_24_820, w13_3_25_821, n895, n896, n897, 0]))), (a_8, .inl (cy 1, 90, .inl n898)), (a_9, .inl (cy 1, 15, .inl n899)), (a_10, .inl (cy 1, 1050, .inl n900)), (a_11, .inl (cy 1, 30, .inl n901)), (a_12, .inl (cy 1, 240, .inl n902)), (a_13, .inl (cy 1, 450, .inl f_6))]) hS
                  refine lv_goto (tgt := 13) hx hb dX12_book_101 (by decide) ?_
                  exact ih13 n942 n943 n944 n945 n946 n947 n948 v960 w13_3_24_820 w13_3_25_821 n895 n896 n897 n898 n899 n900 n901 n902 (mm_wk q959 (by decide)) w950 (mm_wk q958 (by decide)) w952 (mm_wk rv960 (by decide)) rw13_3_24_820 rw13_3_25_821 w907 w908 w909 w910 w911 w912 w913 w914 w953 w954 w955 (mm_lp_s w957 (by have := w850; have := w926; omega) tv960) (mm_fr_t w834 w929) (mm_fr_t w835 w930) (mm_fr_t w836 w931) (mm_fr_t w837 w932) w927 w928 (mm_acs_z mm_k0 (by decide)) (mm_tl_1 rv960 (by decide)) (mm_bm hm13 w845 (mm_go_t w957 w926) q958) H locs hP hD hS ls (lv_sub hl [0] rfl)
            · have q961 := mm_eqI (lo := 0) (hi := 0) c883 q851 mm_k0 (by decide)
              refine lv_aload_n hx hb dX12_book_36 rfl (lv_at hl 0 rfl) ?_
              refine lv_ldc2 (v := 50717) hx hb hown (mm_h hts mm_w433) dX12_book_37 ?_
              refine mm_finv (va_runV (As := [.long 50717]) (rest := []) ⟨hx, hb, hml, hown, hts⟩ (M38_X12_asks l G cy H.size a_0 50717 0 a_1 a_2 a_3 a_4 a_5 i_1 y13_0_7_812 y13_0_8_813 y13_0_9_814 y13_0_10_815 y13_0_11_816 y13_0_12_817 y13_0_13_818 i_8 i_9 a_6 a_7 a_8 a_9 a_10 a_11 a_12 a_13 a_14 a_15 a_16 a_17 a_18 i_10 i_11 i_12 i_13 i_14 i_15 a_19 i_16 a_20 f_0 h0 ry13_0_7_812 (mm_wk q882 (by decide)) ry13_0_9_814 (mm_wk w845 (by decide)) h5 w830 w831 w832) (cwV 1 hts (mm_gV mm_w471 mm_w472 mm_w473 mm_w5 mm_w474) rfl rfl rfl hd_X12_asks ⟨by rw [hRf]; exact Nat.le_of_ble_eq_true rfl, by rw [hRl]; exact Nat.le_of_ble_eq_true rfl⟩) (mm_preV hK hZ hS hA hP hD [0, 1] rfl rfl 0 rfl rfl rfl) rfl rfl hl.1 rfl (lv_room (Nat.le_of_ble_eq_true rfl)) dX12_book_40 ⟨by rw [hRc]; exact Nat.le_of_ble_eq_true rfl, by rw [hRs]; exact Nat.le_of_ble_eq_true rfl⟩) hP hD hS hA (fun u : Int32 × Int32 × Int32 × Int32 × Int64 × Int32 × Int32 => [(a_0, .inr (12, [.int 0, .ref a_1, .ref a_2, .ref a_3, .ref a_4, .ref a_5, .int i_1, .int u.1, .int u.2.1, .int u.2.2.1, .int u.2.2.2.1, .long u.2.2.2.2.1, .int u.2.2.2.2.2.1, .int u.2.2.2.2.2.2, .int i_8, .int i_9, .ref a_6, .ref a_7, .ref a_8, .ref a_9, .ref a_10, .ref a_11, .ref a_12, .ref a_13, .ref a_14, .ref a_15, .ref a_16, .ref a_17, .ref a_18, .int i_10, .int i_11, .int i_12, .int i_13, .int i_14, .int i_15, .ref a_19, .int i_16, .ref a_20])), (a_5, .inl (cy 0, 600, .inl f_0)), (a_6, .inl (cy 1, 5, .inl (mm_g [i_17, i_18, i_19, i_20, w13_2_4_819]))), (a_7, .inl (cy 1, 30, .inl (mm_g [i_22, i_23, i_24, i_25, i_26, i_27, i_28, i_29, i_30, i_31, i_32, i_33, i_34, i_35, i_36, i_37, i_38, i_39, i_40, i_41, i_42, i_43, i_44, i_45, w13_3_24_820, w13_3_25_821, w13_3_26_822, w13_3_27_823, w13_3_28_824, 0]))), (a_8, .inl (cy 1, 90, .inl z13_4_825)), (a_9, .inl (cy 1, 15, .inl z13_5_826)), (a_10, .inl (cy 1, 1050, .inl z13_6_827)), (a_11, .inl (cy 1, 30, .inl z13_7_828)), (a_12, .inl (cy 1, 240, .inl z13_8_829)), (a_13, .inl (cy 1, 450, .inl f_6))]) [0, 1] [2, 3, 4, 5, 6, 7, 8, 9] (n := 10) (fun _ => rfl) (by decide +kernel) (by decide +kernel) rfl (fun _ => rfl) (wr := [(a_6, .inl (cy 1, 5, .inl (mm_g [i_17, i_18, i_19, i_20, w13_2_4_819]))), (a_7, .inl (cy 1, 30, .inl (mm_g [i_22, i_23, i_24, i_25, i_26, i_27, i_28, i_29, i_30, i_31, i_32, i_33, i_34, i_35, i_36, i_37, i_38, i_39, i_40, i_41, i_42, i_43, i_44, i_45, w13_3_24_820, w13_3_25_821, w13_3_26_822, w13_3_27_823, w13_3_28_824, 0]))), (a_8, .inl (cy 1, 90, .inl z13_4_825)), (a_9, .inl (cy 1, 15, .inl z13_5_826)), (a_10, .inl (cy 1, 1050, .inl z13_6_827)), (a_11, .inl (cy 1, 30, .inl z13_7_828)), (a_12, .inl (cy 1, 240, .inl z13_8_829)), (a_13, .inl (cy 1, 450, .inl f_6))]) rfl (fun _ => rfl) (fun _ => rfl) ?_
              clear hP hD hS
              clear H locs
              intro u
              obtain ⟨n962, n963, n964, n965, n966, n967, n968⟩ := u
              intro H locs hw (hP : va_P G vwCl [(a_0, .inr (12, [.int 0, .ref a_1, .ref a_2, .ref a_3, .ref a_4, .ref a_5, .int i_1, .int n962, .int n963, .int n964, .int n965, .long n966, .int n967, .int n968, .int i_8, .int i_9, .ref a_6, .ref a_7, .ref a_8, .ref a_9, .ref a_10, .ref a_11, .ref a_12, .ref a_13, .ref a_14, .ref a_15, .ref a_16, .ref a_17, .ref a_18, .int i_10, .int i_11, .int i_12, .int i_13, .int i_14, .int i_15, .ref a_19, .int i_16, .ref a_20])), (a_5, .inl (cy 0, 600, .inl f_0)), (a_6, .inl (cy 1, 5, .inl (mm_g [i_17, i_18, i_19, i_20, w13_2_4_819]))), (a_7, .inl (cy 1, 30, .inl (mm_g [i_22, i_23, i_24, i_25, i_26, i_27, i_28, i_29, i_30, i_31, i_32, i_33, i_34, i_35, i_36, i_37, i_38, i_39, i_40, i_41, i_42, i_43, i_44, i_45, w13_3_24_820, w13_3_25_821, w13_3_26_822, w13_3_27_823, w13_3_28_824, 0]))), (a_8, .inl (cy 1, 90, .inl z13_4_825)), (a_9, .inl (cy 1, 15, .inl z13_5_826)), (a_10, .inl (cy 1, 1050, .inl z13_6_827)), (a_11, .inl (cy 1, 30, .inl z13_7_828)), (a_12, .inl (cy 1, 240, .inl z13_8_829)), (a_13, .inl (cy 1, 450, .inl f_6))] H) (hD : va_D A [(a_0, .inr (12, [.int 0, .ref a_1, .ref a_2, .ref a_3, .ref a_4, .ref a_5, .int i_1, .int n962, .int n963, .int n964, .int n965, .long n966, .int n967, .int n968, .int i_8, .int i_9, .ref a_6, .ref a_7, .ref a_8, .ref a_9, .ref a_10, .ref a_11, .ref a_12, .ref a_13, .ref a_14, .ref a_15, .ref a_16, .ref a_17, .ref a_18, .int i_10, .int i_11, .int i_12, .int i_13, .int i_14, .int i_15, .ref a_19, .int i_16, .ref a_20])), (a_5, .inl (cy 0, 600, .inl f_0)), (a_6, .inl (cy 1, 5, .inl (mm_g [i_17, i_18, i_19, i_20, w13_2_4_819]))), (a_7, .inl (cy 1, 30, .inl (mm_g [i_22, i_23, i_24, i_25, i_26, i_27, i_28, i_29, i_30, i_31, i_32, i_33, i_34, i_35, i_36, i_37, i_38, i_39, i_40, i_41, i_42, i_43, i_44, i_45, w13_3_24_820, w13_3_25_821, w13_3_26_822, w13_3_27_823, w13_3_28_824, 0]))), (a_8, .inl (cy 1, 90, .inl z13_4_825)), (a_9, .inl (cy 1, 15, .inl z13_5_826)), (a_10, .inl (cy 1, 1050, .inl z13_6_827)), (a_11, .inl (cy 1, 30, .inl z13_7_828)), (a_12, .inl (cy 1, 240, .inl z13_8_829)), (a_13, .inl (cy 1, 450, .inl f_6))]) hS
              obtain ⟨w969, w970, w971, w972, w973, w974, w975, w976⟩ := hw
              refine lv_aload_n hx hb dX12_book_43 rfl (lv_at hl 0 rfl) ?_
              refine lv_iconst (v := 0) hx hb dX12_book_44 (by decide) ?_
              refine lv_aload_n hx hb dX12_book_45 rfl (lv_at hl 0 rfl) ?_
              refine lv_ldc2 (v := 298288) hx hb hown (mm_h hts mm_w434) dX12_book_46 ?_
              refine lv_iconst (v := 0) hx hb dX12_book_49 (by decide) ?_
              refine lv_bipush (v := 10) hx hb dX12_book_50 (by decide) ?_
              refine mm_fini (va_runV (As := [.long 298288, .int 0, .int 10]) (rest := [.int 0, .ref a_0]) ⟨hx, hb, hml, hown, hts⟩ (M41_X12_number_ l G cy H.size a_0 298288 0 a_1 a_2 a_3 a_4 a_5 i_1 n962 n963 n964 n965 n966 n967 n968 i_8 i_9 a_6 a_7 a_8 a_9 a_10 a_11 a_12 a_13 a_14 a_15 a_16 a_17 a_18 i_10 i_11 i_12 i_13 i_14 i_15 a_19 i_16 a_20 f_0 h0 w969 w970 w971 w972 h5 w973 w974 w975) (cwV 3 hts (mm_gV mm_w487 mm_w488 mm_w489 mm_w5 mm_w490) rfl rfl rfl hd_X12_number_ ⟨by rw [hRf]; exact Nat.le_of_ble_eq_true rfl, by rw [hRl]; exact Nat.le_of_ble_eq_true rfl⟩) (mm_preV hK hZ hS hA hP hD [0, 1] rfl rfl 0 rfl rfl rfl) rfl rfl hl.1 rfl (lv_room (Nat.le_of_ble_eq_true rfl)) dX12_book_52 ⟨by rw [hRc]; exact Nat.le_of_ble_eq_true rfl, by rw [hRs]; exact Nat.le_of_ble_eq_true rfl⟩) hP hD hS hA (fun u : Int32 × Int32 × Int32 × Int32 × Int64 × Int32 × Int32 => [(a_0, .inr (12, [.int 0, .ref a_1, .ref a_2, .ref a_3, .ref a_4, .ref a_5, .int i_1, .int u.1, .int u.2.1, .int u.2.2.1, .int u.2.2.2.1, .long u.2.2.2.2.1, .int u.2.2.2.2.2.1, .int u.2.2.2.2.2.2, .int i_8, .int i_9, .ref a_6, .ref a_7, .ref a_8, .ref a_9, .ref a_10, .ref a_11, .ref a_12, .ref a_13, .ref a_14, .ref a_15, .ref a_16, .ref a_17, .ref a_18, .int i_10, .int i_11, .int i_12, .int i_13, .int i_14, .int i_15, .ref a_19, .int i_16, .ref a_20])), (a_5, .inl (cy 0, 600, .inl f_0)), (a_6, .inl (cy 1, 5, .inl (mm_g [i_17, i_18, i_19, i_20, w13_2_4_819]))), (a_7, .inl (cy 1, 30, .inl (mm_g [i_22, i_23, i_24, i_25, i_26, i_27, i_28, i_29, i_30, i_31, i_32, i_33, i_34, i_35, i_36, i_37, i_38, i_39, i_40, i_41, i_42, i_43, i_44, i_45, w13_3_24_820, w13_3_25_821, w13_3_26_822, w13_3_27_823, w13_3_28_824, 0]))), (a_8, .inl (cy 1, 90, .inl z13_4_825)), (a_9, .inl (cy 1, 15, .inl z13_5_826)), (a_10, .inl (cy 1, 1050, .inl z13_6_827)), (a_11, .inl (cy 1, 30, .inl z13_7_828)), (a_12, .inl (cy 1, 240, .inl z13_8_829)), (a_13, .inl (cy 1, 450, .inl f_6))]) [0, 1] [2, 3, 4, 5, 6, 7, 8, 9] (n := 10) (fun _ => rfl) (by decide +kernel) (by decide +kernel) rfl (fun _ => rfl) (wr := [(a_6, .inl (cy 1, 5, .inl (mm_g [i_17, i_18, i_19, i_20, w13_2_4_819]))), (a_7, .inl (cy 1, 30, .inl (mm_g [i_22, i_23, i_24, i_25, i_26, i_27, i_28, i_29, i_30, i_31, i_32, i_33, i_34, i_35, i_36, i_37, i_38, i_39, i_40, i_41, i_42, i_43, i_44, i_45, w13_3_24_820, w13_3_25_821, w13_3_26_822, w13_3_27_823, w13_3_28_824, 0]))), (a_8, .inl (cy 1, 90, .inl z13_4_825)), (a_9, .inl (cy 1, 15, .inl z13_5_826)), (a_10, .inl (cy 1, 1050, .inl z13_6_827)), (a_11, .inl (cy 1, 30, .inl z13_7_828)), (a_12, .inl (cy 1, 240, .inl z13_8_829)), (a_13, .inl (cy 1, 450, .inl f_6))]) rfl (fun _ => rfl) (fun _ => rfl) ?_
              clear hP hD hS
              clear H locs
              intro v984 u
              obtain ⟨n977, n978, n979, n980, n981, n982, n983⟩ := u
              intro H locs hw (hP : va_P G vwCl [(a_0, .inr (12, [.int 0, .ref a_1, .ref a_2, .ref a_3, .ref a_4, .ref a_5, .int i_1, .int n977, .int n978, .int n979, .int n980, .long n981, .int n982, .int n983, .int i_8, .int i_9, .ref a_6, .ref a_7, .ref a_8, .ref a_9, .ref a_10, .ref a_11, .ref a_12, .ref a_13, .ref a_14, .ref a_15, .ref a_16, .ref a_17, .ref a_18, .int i_10, .int i_11, .int i_12, .int i_13, .int i_14, .int i_15, .ref a_19, .int i_16, .ref a_20])), (a_5, .inl (cy 0, 600, .inl f_0)), (a_6, .inl (cy 1, 5, .inl (mm_g [i_17, i_18, i_19, i_20, w13_2_4_819]))), (a_7, .inl (cy 1, 30, .inl (mm_g [i_22, i_23, i_24, i_25, i_26, i_27, i_28, i_29, i_30, i_31, i_32, i_33, i_34, i_35, i_36, i_37, i_38, i_39, i_40, i_41, i_42, i_43, i_44, i_45, w13_3_24_820, w13_3_25_821, w13_3_26_822, w13_3_27_823, w13_3_28_824, 0]))), (a_8, .inl (cy 1, 90, .inl z13_4_825)), (a_9, .inl (cy 1, 15, .inl z13_5_826)), (a_10, .inl (cy 1, 1050, .inl z13_6_827)), (a_11, .inl (cy 1, 30, .inl z13_7_828)), (a_12, .inl (cy 1, 240, .inl z13_8_829)), (a_13, .inl (cy 1, 450, .inl f_6))] H) (hD : va_D A [(a_0, .inr (12, [.int 0, .ref a_1, .ref a_2, .ref a_3, .ref a_4, .ref a_5, .int i_1, .int n977, .int n978, .int n979, .int n980, .long n981, .int n982, .int n983, .int i_8, .int i_9, .ref a_6, .ref a_7, .ref a_8, .ref a_9, .ref a_10, .ref a_11, .ref a_12, .ref a_13, .ref a_14, .ref a_15, .ref a_16, .ref a_17, .ref a_18, .int i_10, .int i_11, .int i_12, .int i_13, .int i_14, .int i_15, .ref a_19, .int i_16, .ref a_20])), (a_5, .inl (cy 0, 600, .inl f_0)), (a_6, .inl (cy 1, 5, .inl (mm_g [i_17, i_18, i_19, i_20, w13_2_4_819]))), (a_7, .inl (cy 1, 30, .inl (mm_g [i_22, i_23, i_24, i_25, i_26, i_27, i_28, i_29, i_30, i_31, i_32, i_33, i_34, i_35, i_36, i_37, i_38, i_39, i_40, i_41, i_42, i_43, i_44, i_45, w13_3_24_820, w13_3_25_821, w13_3_26_822, w13_3_27_823, w13_3_28_824, 0]))), (a_8, .inl (cy 1, 90, .inl z13_4_825)), (a_9, .inl (cy 1, 15, .inl z13_5_826)), (a_10, .inl (cy 1, 1050, .inl z13_6_827)), (a_11, .inl (cy 1, 30, .inl z13_7_828)), (a_12, .inl (cy 1, 240, .inl z13_8_829)), (a_13, .inl (cy 1, 450, .inl f_6))]) hS
              obtain ⟨w985, w986, w987, w988, w989, w990, w991, w992, hw⟩ := hw
              have w993 := hw
              refine mm_finv (va_runV (As := [.int 0, .int v984]) (rest := []) ⟨hx, hb, hml, hown, hts⟩ (M42_X12_tells l G cy H.size a_0 v984 0 a_1 a_2 a_3 a_4 a_5 i_1 n977 n978 n979 n980 n981 n982 n983 i_8 i_9 a_6 a_7 a_8 a_9 a_10 a_11 a_12 a_13 a_14 a_15 a_16 a_17 a_18 i_10 i_11 i_12 i_13 i_14 i_15 a_19 i_16 a_20 i_22 i_23 i_24 i_25 i_26 i_27 i_28 i_29 i_30 i_31 i_32 i_33 i_34 i_35 i_36 i_37 i_38 i_39 i_40 i_41 i_42 i_43 i_44 i_45 w13_3_24_820 w13_3_25_821 w13_3_26_822 w13_3_27_823 w13_3_28_824 0 w993 h11 h12 h13 h14 h15 h16 h17 h18 h19 h20 h21 h22 h23 h24 h25 h26 h27 h28 h29 h30 h31 h32 h33 h34 rw13_3_24_820 rw13_3_25_821 rw13_3_26_822 rw13_3_27_823 rw13_3_28_824 (mm_wk mm_k0 (by decide))) (cwV 2 hts (mm_gV mm_w441 mm_w442 mm_w443 mm_w5 mm_w444) rfl rfl rfl hd_X12_tells ⟨by rw [hRf]; exact Nat.le_of_ble_eq_true rfl, by rw [hRl]; exact Nat.le_of_ble_eq_true rfl⟩) (mm_preV hK hZ hS hA hP hD [0, 3] rfl rfl 0 rfl rfl rfl) rfl rfl hl.1 rfl (lv_room (Nat.le_of_ble_eq_true rfl)) dX12_book_55 ⟨by rw [hRc]; exact Nat.le_of_ble_eq_true rfl, by rw [hRs]; exact Nat.le_of_ble_eq_true rfl⟩) hP hD hS hA (fun u : Unit => [(a_0, .inr (12, [.int 0, .ref a_1, .ref a_2, .ref a_3, .ref a_4, .ref a_5, .int i_1, .int n977, .int n978, .int n979, .int n980, .long n981, .int n982, .int n983, .int i_8, .int i_9, .ref a_6, .ref a_7, .ref a_8, .ref a_9, .ref a_10, .ref a_11, .ref a_12, .ref a_13, .ref a_14, .ref a_15, .ref a_16, .ref a_17, .ref a_18, .int i_10, .int i_11, .int i_12, .int i_13, .int i_14, .int i_15, .ref a_19, .int i_16, .ref a_20])), (a_5, .inl (cy 0, 600, .inl f_0)), (a_6, .inl (cy 1, 5, .inl (mm_g [i_17, i_18, i_19, i_20, w13_2_4_819]))), (a_7, .inl (cy 1, 30, .inl (mm_g [i_22, i_23, i_24, i_25, i_26, i_27, i_28, i_29, i_30, i_31, i_32, i_33, i_34, i_35, i_36, i_37, i_38, i_39, i_40, i_41, i_42, i_43, i_44, i_45, v984, w13_3_25_821, w13_3_26_822, w13_3_27_823, w13_3_28_824, 0]))), (a_8, .inl (cy 1, 90, .inl z13_4_825)), (a_9, .inl (cy 1, 15, .inl z13_5_826)), (a_10, .inl (cy 1, 1050, .inl z13_6_827)), (a_11, .inl (cy 1, 30, .inl z13_7_828)), (a_12, .inl (cy 1, 240, .inl z13_8_829)), (a_13, .inl (cy 1, 450, .inl f_6))]) [0, 3] [1, 2, 4, 5, 6, 7, 8, 9] (n := 10) (fun _ => rfl) (by decide +kernel) (by decide +kernel) rfl (fun _ => rfl) (wr := [(a_5, .inl (cy 0, 600, .inl f_0)), (a_6, .inl (cy 1, 5, .inl (mm_g [i_17, i_18, i_19, i_20, w13_2_4_819]))), (a_8, .inl (cy 1, 90, .inl z13_4_825)), (a_9, .inl (cy 1, 15, .inl z13_5_826)), (a_10, .inl (cy 1, 1050, .inl z13_6_827)), (a_11, .inl (cy 1, 30, .inl z13_7_828)), (a_12, .inl (cy 1, 240, .inl z13_8_829)), (a_13, .inl (cy 1, 450, .inl f_6))]) rfl (fun _ => rfl) (fun _ => rfl) ?_
              clear hP hD hS
              clear H locs
              intro _u H locs hw (hP : va_P G vwCl [(a_0, .inr (12, [.int 0, .ref a_1, .ref a_2, .ref a_3, .ref a_4, .ref a_5, .int i_1, .int n977, .int n978, .int n979, .int n980, .long n981, .int n982, .int n983, .int i_8, .int i_9, .ref a_6, .ref a_7, .ref a_8, .ref a_9, .ref a_10, .ref a_11, .ref a_12, .ref a_13, .ref a_14, .ref a_15, .ref a_16, .ref a_17, .ref a_18, .int i_10, .int i_11, .int i_12, .int i_13, .int i_14, .int i_15, .ref a_19, .int i_16, .ref a_20])), (a_5, .inl (cy 0, 600, .inl f_0)), (a_6, .inl (cy 1, 5, .inl (mm_g [i_17, i_18, i_19, i_20, w13_2_4_819]))), (a_7, .inl (cy 1, 30, .inl (mm_g [i_22, i_23, i_24, i_25, i_26, i_27, i_28, i_29, i_30, i_31, i_32, i_33, i_34, i_35, i_36, i_37, i_38, i_39, i_40, i_41, i_42, i_43, i_44, i_45, v984, w13_3_25_821, w13_3_26_822, w13_3_27_823, w13_3_28_824, 0]))), (a_8, .inl (cy 1, 90, .inl z13_4_825)), (a_9, .inl (cy 1, 15, .inl z13_5_826)), (a_10, .inl (cy 1, 1050, .inl z13_6_827)), (a_11, .inl (cy 1, 30, .inl z13_7_828)), (a_12, .inl (cy 1, 240, .inl z13_8_829)), (a_13, .inl (cy 1, 450, .inl f_6))] H) (hD : va_D A [(a_0, .inr (12, [.int 0, .ref a_1, .ref a_2, .ref a_3, .ref a_4, .ref a_5, .int i_1, .int n977, .int n978, .int n979, .int n980, .long n981, .int n982, .int n983, .int i_8, .int i_9, .ref a_6, .ref a_7, .ref a_8, .ref a_9, .ref a_10, .ref a_11, .ref a_12, .ref a_13, .ref a_14, .ref a_15, .ref a_16, .ref a_17, .ref a_18, .int i_10, .int i_11, .int i_12, .int i_13, .int i_14, .int i_15, .ref a_19, .int i_16, .ref a_20])), (a_5, .inl (cy 0, 600, .inl f_0)), (a_6, .inl (cy 1, 5, .inl (mm_g [i_17, i_18, i_19, i_20, w13_2_4_819]))), (a_7, .inl (cy 1, 30, .inl (mm_g [i_22, i_23, i_24, i_25, i_26, i_27, i_28, i_29, i_30, i_31, i_32, i_33, i_34, i_35, i_36, i_37, i_38, i_39, i_40, i_41, i_42, i_43, i_44, i_45, v984, w13_3_25_821, w13_3_26_822, w13_3_27_823, w13_3_28_824, 0]))), (a_8, .inl (cy 1, 90, .inl z13_4_825)), (a_9, .inl (cy 1, 15, .inl z13_5_826)), (a_10, .inl (cy 1, 1050, .inl z13_6_827)), (a_11, .inl (cy 1, 30, .inl z13_7_828)), (a_12, .inl (cy 1, 240, .inl z13_8_829)), (a_13, .inl (cy 1, 450, .inl f_6))]) hS
              refine lv_aload_n hx hb dX12_book_58 rfl (lv_at hl 0 rfl) ?_
              refine lv_iconst (v := 1) hx hb dX12_book_59 (by decide) ?_
              refine lv_aload_n hx hb dX12_book_60 rfl (lv_at hl 0 rfl) ?_
              refine lv_ldc2 (v := 10502066) hx hb hown (mm_h hts mm_w435) dX12_book_61 ?_
              refine lv_iconst (v := 0) hx hb dX12_book_64 (by decide) ?_
              refine lv_bipush (v := 99) hx hb dX12_book_65 (by decide) ?_
              refine mm_fini (va_runV (As := [.long 10502066, .int 0, .int 99]) (rest := [.int 1, .ref a_0]) ⟨hx, hb, hml, hown, hts⟩ (M44_X12_number_ l G cy H.size a_0 10502066 0 a_1 a_2 a_3 a_4 a_5 i_1 n977 n978 n979 n980 n981 n982 n983 i_8 i_9 a_6 a_7 a_8 a_9 a_10 a_11 a_12 a_13 a_14 a_15 a_16 a_17 a_18 i_10 i_11 i_12 i_13 i_14 i_15 a_19 i_16 a_20 f_0 h0 w985 w986 w987 w988 h5 w989 w990 w991) (cwV 3 hts (mm_gV mm_w487 mm_w488 mm_w489 mm_w5 mm_w490) rfl rfl rfl hd_X12_number_ ⟨by rw [hRf]; exact Nat.le_of_ble_eq_true rfl, by rw [hRl]; exact Nat.le_of_ble_eq_true rfl⟩) (mm_preV hK hZ hS hA hP hD [0, 1] rfl rfl 0 rfl rfl rfl) rfl rfl hl.1 rfl (lv_room (Nat.le_of_ble_eq_true rfl)) dX12_book_67 ⟨by rw [hRc]; exact Nat.le_of_ble_eq_true rfl, by rw [hRs]; exact Nat.le_of_ble_eq_true rfl⟩) hP hD hS hA (fun u : Int32 × Int32 × Int32 × Int32 × Int64 × Int32 × Int32 => [(a_0, .inr (12, [.int 0, .ref a_1, .ref a_2, .ref a_3, .ref a_4, .ref a_5, .int i_1, .int u.1, .int u.2.1, .int u.2.2.1, .int u.2.2.2.1, .long u.2.2.2.2.1, .int u.2.2.2.2.2.1, .int u.2.2.2.2.2.2, .int i_8, .int i_9, .ref a_6, .ref a_7, .ref a_8, .ref a_9, .ref a_10, .ref a_11, .ref a_12, .ref a_13, .ref a_14, .ref a_15, .ref a_16, .ref a_17, .ref a_18, .int i_10, .int i_11, .int i_12, .int i_13, .int i_14, .int i_15, .ref a_19, .int i_16, .ref a_20])), (a_5, .inl (cy 0, 600, .inl f_0)), (a_6, .inl (cy 1, 5, .inl (mm_g [i_17, i_18, i_19, i_20, w13_2_4_819]))), (a_7, .inl (cy 1, 30, .inl (mm_g [i_22, i_23, i_24, i_25, i_26, i_27, i_28, i_29, i_30, i_31, i_32, i_33, i_34, i_35, i_36, i_37, i_38, i_39, i_40, i_41, i_42, i_43, i_44, i_45, v984, w13_3_25_821, w13_3_26_822, w13_3_27_823, w13_3_28_824, 0]))), (a_8, .inl (cy 1, 90, .inl z13_4_825)), (a_9, .inl (cy 1, 15, .inl z13_5_826)), (a_10, .inl (cy 1, 1050, .inl z13_6_827)), (a_11, .inl (cy 1, 30, .inl z13_7_828)), (a_12, .inl (cy 1, 240, .inl z13_8_829)), (a_13, .inl (cy 1, 450, .inl f_6))]) [0, 1] [2, 3, 4, 5, 6, 7, 8, 9] (n := 10) (fun _ => rfl) (by decide +kernel) (by decide +kernel) rfl (fun _ => rfl) (wr := [(a_6, .inl (cy 1, 5, .inl (mm_g [i_17, i_18, i_19, i_20, w13_2_4_819]))), (a_7, .inl (cy 1, 30, .inl (mm_g [i_22, i_23, i_24, i_25, i_26, i_27, i_28, i_29, i_30, i_31, i_32, i_33, i_34, i_35, i_36, i_37, i_38, i_39, i_40, i_41, i_42, i_43, i_44, i_45, v984, w13_3_25_821, w13_3_26_822, w13_3_27_823, w13_3_28_824, 0]))), (a_8, .inl (cy 1, 90, .inl z13_4_825)), (a_9, .inl (cy 1, 15, .inl z13_5_826)), (a_10, .inl (cy 1, 1050, .inl z13_6_827)), (a_11, .inl (cy 1, 30, .inl z13_7_828)), (a_12, .inl (cy 1, 240, .inl z13_8_829)), (a_13, .inl (cy 1, 450, .inl f_6))]) rfl (fun _ => rfl) (fun _ => rfl) ?_
              clear hP hD hS
              clear H locs
              intro v1001 u
              obtain ⟨n994, n995, n996, n997, n998, n999, n1000⟩ := u
              intro H locs hw (hP : va_P G vwCl [(a_0, .inr (12, [.int 0, .ref a_1, .ref a_2, .ref a_3, .ref a_4, .ref a_5, .int i_1, .int n994, .int n995, .int n996, .int n997, .long n998, .int n999, .int n1000, .int i_8, .int i_9, .ref a_6, .ref a_7, .ref a_8, .ref a_9, .ref a_10, .ref a_11, .ref a_12, .ref a_13, .ref a_14, .ref a_15, .ref a_16, .ref a_17, .ref a_18, .int i_10, .int i_11, .int i_12, .int i_13, .int i_14, .int i_15, .ref a_19, .int i_16, .ref a_20])), (a_5, .inl (cy 0, 600, .inl f_0)), (a_6, .inl (cy 1, 5, .inl (mm_g [i_17, i_18, i_19, i_20, w13_2_4_819]))), (a_7, .inl (cy 1, 30, .inl (mm_g [i_22, i_23, i_24, i_25, i_26, i_27, i_28, i_29, i_30, i_31, i_32, i_33, i_34, i_35, i_36, i_37, i_38, i_39, i_40, i_41, i_42, i_43, i_44, i_45, v984, w13_3_25_821, w13_3_26_822, w13_3_27_823, w13_3_28_824, 0]))), (a_8, .inl (cy 1, 90, .inl z13_4_825)), (a_9, .inl (cy 1, 15, .inl z13_5_826)), (a_10, .inl (cy 1, 1050, .inl z13_6_827)), (a_11, .inl (cy 1, 30, .inl z13_7_828)), (a_12, .inl (cy 1, 240, .inl z13_8_829)), (a_13, .inl (cy 1, 450, .inl f_6))] H) (hD : va_D A [(a_0, .inr (12, [.int 0, .ref a_1, .ref a_2, .ref a_3, .ref a_4, .ref a_5, .int i_1, .int n994, .int n995, .int n996, .int n997, .long n998, .int n999, .int n1000, .int i_8, .int i_9, .ref a_6, .ref a_7, .ref a_8, .ref a_9, .ref a_10, .ref a_11, .ref a_12, .ref a_13, .ref a_14, .ref a_15, .ref a_16, .ref a_17, .ref a_18, .int i_10, .int i_11, .int i_12, .int i_13, .int i_14, .int i_15, .ref a_19, .int i_16, .ref a_20])), (a_5, .inl (cy 0, 600, .inl f_0)), (a_6, .inl (cy 1, 5, .inl (mm_g [i_17, i_18, i_19, i_20, w13_2_4_819]))), (a_7, .inl (cy 1, 30, .inl (mm_g [i_22, i_23, i_24, i_25, i_26, i_27, i_28, i_29, i_30, i_31, i_32, i_33, i_34, i_35, i_36, i_37, i_38, i_39, i_40, i_41, i_42, i_43, i_44, i_45, v984, w13_3_25_821, w13_3_26_822, w13_3_27_823, w13_3_28_824, 0]))), (a_8, .inl (cy 1, 90, .inl z13_4_825)), (a_9, .inl (cy 1, 15, .inl z13_5_826)), (a_10, .inl (cy 1, 1050, .inl z13_6_827)), (a_11, .inl (cy 1, 30, .inl z13_7_828)), (a_12, .inl (cy 1, 240, .inl z13_8_829)), (a_13, .inl (cy 1, 450, .inl f_6))]) hS
              obtain ⟨w1002, w1003, w1004, w1005, w1006, w1007, w1008, w1009, hw⟩ := hw
              have w1010 := hw
              refine mm_finv (va_runV (As := [.int 1, .int v1001]) (rest := []) ⟨hx, hb, hml, hown, hts⟩ (M45_X12_tells l G cy H.size a_0 v1001 0 a_1 a_2 a_3 a_4 a_5 i_1 n994 n995 n996 n997 n998 n999 n1000 i_8 i_9 a_6 a_7 a_8 a_9 a_10 a_11 a_12 a_13 a_14 a_15 a_16 a_17 a_18 i_10 i_11 i_12 i_13 i_14 i_15 a_19 i_16 a_20 i_22 i_23 i_24 i_25 i_26 i_27 i_28 i_29 i_30 i_31 i_32 i_33 i_34 i_35 i_36 i_37 i_38 i_39 i_40 i_41 i_42 i_43 i_44 i_45 v984 w13_3_25_821 w13_3_26_822 w13_3_27_823 w13_3_28_824 0 w1010 h11 h12 h13 h14 h15 h16 h17 h18 h19 h20 h21 h22 h23 h24 h25 h26 h27 h28 h29 h30 h31 h32 h33 h34 w993 rw13_3_25_821 rw13_3_26_822 rw13_3_27_823 rw13_3_28_824 (mm_wk mm_k0 (by decide))) (cwV 2 hts (mm_gV mm_w441 mm_w442 mm_w443 mm_w5 mm_w444) rfl rfl rfl hd_X12_tells ⟨by rw [hRf]; exact Nat.le_of_ble_eq_true rfl, by rw [hRl]; exact Nat.le_of_ble_eq_true rfl⟩) (mm_preV hK hZ hS hA hP hD [0, 3] rfl rfl 0 rfl rfl rfl) rfl rfl hl.1 rfl (lv_room (Nat.le_of_ble_eq_true rfl)) dX12_book_70 ⟨by rw [hRc]; exact Nat.le_of_ble_eq_true rfl, by rw [hRs]; exact Nat.le_of_ble_eq_true rfl⟩) hP hD hS hA (fun u : Unit => [(a_0, .inr (12, [.int 0, .ref a_1, .ref a_2, .ref a_3, .ref a_4, .ref a_5, .int i_1, .int n994, .int n995, .int n996, .int n997, .long n998, .int n999, .int n1000, .int i_8, .int i_9, .ref a_6, .ref a_7, .ref a_8, .ref a_9, .ref a_10, .ref a_11, .ref a_12, .ref a_13, .ref a_14, .ref a_15, .ref a_16, .ref a_17, .ref a_18, .int i_10, .int i_11, .int i_12, .int i_13, .int i_14, .int i_15, .ref a_19, .int i_16, .ref a_20])), (a_5, .inl (cy 0, 600, .inl f_0)), (a_6, .inl (cy 1, 5, .inl (mm_g [i_17, i_18, i_19, i_20, w13_2_4_819]))), (a_7, .inl (cy 1, 30, .inl (mm_g [i_22, i_23, i_24, i_25, i_26, i_27, i_28, i_29, i_30, i_31, i_32, i_33, i_34, i_35, i_36, i_37, i_38, i_39, i_40, i_41, i_42, i_43, i_44, i_45, v984, v1001, w13_3_26_822, w13_3_27_823, w13_3_28_824, 0]))), (a_8, .inl (cy 1, 90, .inl z13_4_825)), (a_9, .inl (cy 1, 15, .inl z13_5_826)), (a_10, .inl (cy 1, 1050, .inl z13_6_827)), (a_11, .inl (cy 1, 30, .inl z13_7_828)), (a_12, .inl (cy 1, 240, .inl z13_8_829)), (a_13, .inl (cy 1, 450, .inl f_6))]) [0, 3] [1, 2, 4, 5, 6, 7, 8, 9] (n := 10) (fun _ => rfl) (by decide +kernel) (by decide +kernel) rfl (fun _ => rfl) (wr := [(a_5, .inl (cy 0, 600, .inl f_0)), (a_6, .inl (cy 1, 5, .inl (mm_g [i_17, i_18, i_19, i_20, w13_2_4_819]))), (a_8, .inl (cy 1, 90, .inl z13_4_825)), (a_9, .inl (cy 1, 15, .inl z13_5_826)), (a_10, .inl (cy 1, 1050, .inl z13_6_827)), (a_11, .inl (cy 1, 30, .inl z13_7_828)), (a_12, .inl (cy 1, 240, .inl z13_8_829)), (a_13, .inl (cy 1, 450, .inl f_6))]) rfl (fun _ => rfl) (fun _ => rfl) ?_
              clear hP hD hS
              clear H locs
              intro _u H locs hw (hP : va_P G vwCl [(a_0, .inr (12, [.int 0, .ref a_1, .ref a_2, .ref a_3, .ref a_4, .ref a_5, .int i_1, .int n994, .int n995, .int n996, .int n997, .long n998, .int n999, .int n1000, .int i_8, .int i_9, .ref a_6, .ref a_7, .ref a_8, .ref a_9, .ref a_10, .ref a_11, .ref a_12, .ref a_13, .ref a_14, .ref a_15, .ref a_16, .ref a_17, .ref a_18, .int i_10, .int i_11, .int i_12, .int i_13, .int i_14, .int i_15, .ref a_19, .int i_16, .ref a_20])), (a_5, .inl (cy 0, 600, .inl f_0)), (a_6, .inl (cy 1, 5, .inl (mm_g [i_17, i_18, i_19, i_20, w13_2_4_819]))), (a_7, .inl (cy 1, 30, .inl (mm_g [i_22, i_23, i_24, i_25, i_26, i_27, i_28, i_29, i_30, i_31, i_32, i_33, i_34, i_35, i_36, i_37, i_38, i_39, i_40, i_41, i_42, i_43, i_44, i_45, v984, v1001, w13_3_26_822, w13_3_27_823, w13_3_28_824, 0]))), (a_8, .inl (cy 1, 90, .inl z13_4_825)), (a_9, .inl (cy 1, 15, .inl z13_5_826)), (a_10, .inl (cy 1, 1050, .inl z13_6_827)), (a_11, .inl (cy 1, 30, .inl z13_7_828)), (a_12, .inl (cy 1, 240, .inl z13_8_829)), (a_13, .inl (cy 1, 450, .inl f_6))] H) (hD : va_D A [(a_0, .inr (12, [.int 0, .ref a_1, .ref a_2, .ref a_3, .ref a_4, .ref a_5, .int i_1, .int n994, .int n995, .int n996, .int n997, .long n998, .int n999, .int n1000, .int i_8, .int i_9, .ref a_6, .ref a_7, .ref a_8, .ref a_9, .ref a_10, .ref a_11, .ref a_12, .ref a_13, .ref a_14, .ref a_15, .ref a_16, .ref a_17, .ref a_18, .int i_10, .int i_11, .int i_12, .int i_13, .int i_14, .int i_15, .ref a_19, .int i_16, .ref a_20])), (a_5, .inl (cy 0, 600, .inl f_0)), (a_6, .inl (cy 1, 5, .inl (mm_g [i_17, i_18, i_19, i_20, w13_2_4_819]))), (a_7, .inl (cy 1, 30, .inl (mm_g [i_22, i_23, i_24, i_25, i_26, i_27, i_28, i_29, i_30, i_31, i_32, i_33, i_34, i_35, i_36, i_37, i_38, i_39, i_40, i_41, i_42, i_43, i_44, i_45, v984, v1001, w13_3_26_822, w13_3_27_823, w13_3_28_824, 0]))), (a_8, .inl (cy 1, 90, .inl z13_4_825)), (a_9, .inl (cy 1, 15, .inl z13_5_826)), (a_10, .inl (cy 1, 1050, .inl z13_6_827)), (a_11, .inl (cy 1, 30, .inl z13_7_828)), (a_12, .inl (cy 1, 240, .inl z13_8_829)), (a_13, .inl (cy 1, 450, .inl f_6))]) hS
              refine lv_goto (tgt := 80) hx hb dX12_book_73 (by decide) ?_
              refine lv_aload_n hx hb dX12_book_80 rfl (lv_at hl 0 rfl) ?_
              refine mm_finir (va_runV (As := []) (rest := []) ⟨hx, hb, hml, hown, hts⟩ (M24_X12_isGood l G cy H.size a_0 0 a_1 a_2 a_3 a_4 a_5 i_1 n994 n995 n996 n997 n998 n999 n1000 i_8 i_9 a_6 a_7 a_8 a_9 a_10 a_11 a_12 a_13 a_14 a_15 a_16 a_17 a_18 i_10 i_11 i_12 i_13 i_14 i_15 a_19 i_16 a_20 w1005) (cwV 0 hts (mm_gV mm_w467 mm_w468 mm_w469 mm_w5 mm_w470) rfl rfl rfl hd_X12_isGood ⟨by rw [hRf]; exact Nat.le_of_ble_eq_true rfl, by rw [hRl]; exact Nat.le_of_ble_eq_true rfl⟩) (mm_preV hK hZ hS hA hP hD [0] rfl rfl 0 rfl rfl rfl) rfl rfl hl.1 rfl (lv_room (Nat.le_of_ble_eq_true rfl)) dX12_book_81 ⟨by rw [hRc]; exact Nat.le_of_ble_eq_true rfl, by rw [hRs]; exact Nat.le_of_ble_eq_true rfl⟩) hP hD hS hA [0] rfl (fun _ => rfl) ?_
              clear hP hD hS
              clear H locs
              intro v1011 _u H locs hw hP hD hS
              rcases hw with ⟨rfl, w1012⟩ | ⟨rfl, w1013⟩
              · refine lv_if_eq (tgt := 91) hx hb dX12_book_84 (by decide) (fun c1014 => ?_) (fun c1014 => ?_)
                · refine lv_aload_n hx hb dX12_book_91 rfl (lv_at hl 0 rfl) ?_
                  refine va_get (D := G) (ci := 12) (v := .ref a_6) (C := RX12) (T := TX12) (N := 38) hx hb hts (mm_i inlX12) hown hK.1 hP 0 rfl rfl 16 (by decide) (mm_h hts mm_w148) (fun _ h9 => h9) rfl dX12_book_92 ?_
                  refine lv_iconst (v := 4) hx hb dX12_book_95 (by decide) ?_
                  refine lv_dup2_11 hx hb dX12_book_96 rfl rfl ?_
                  refine va_iald hx hb hK.1 hP 2 1 rfl rfl (mm_in mm_k4 (by decide)) dX12_book_97 ?_
                  refine W.eq (g2 := F0 m 98 ls [.int w13_2_4_819, .int 4, .ref a_6]) rfl ?_
                  refine lv_iconst (v := 1) hx hb dX12_book_98 (by decide) ?_
                  refine lv_iadd hx hb dX12_book_99 ?_
                  refine lv_topi (fun v1015 ev1015 => ?_)
                  have rv1015 : mm_rg v1015 1 1 := mm_add ev1015 q961 mm_k1 (by decide) (by decide)
                  have tv1015 := mm_addEc ev1015 q961 mm_k1 (by decide) (k := 1) (by decide)
                  refine va_iast hx hb hK.1 hP hD hS 2 1 rfl rfl (mm_in mm_k4 (by decide)) dX12_book_100 ?_
                  clear hP hD hS
                  clear H locs
                  rw [show upd (mm_g [i_17, i_18, i_19, i_20, w13_2_4_819]) (4 : Int32).toNatClampNeg v1015 = (mm_g [i_17, i_18, i_19, i_20, v1015]) from mm_gs (by decide) rfl]
                  intro H locs (hP : va_P G vwCl [(a_0, .inr (12, [.int 0, .ref a_1, .ref a_2, .ref a_3, .ref a_4, .ref a_5, .int i_1, .int n994, .int n995, .int n996, .int n997, .long n998, .int n999, .int n1000, .int i_8, .int i_9, .ref a_6, .ref a_7, .ref a_8, .ref a_9, .ref a_10, .ref a_11, .ref a_12, .ref a_13, .ref a_14, .ref a_15, .ref a_16, .ref a_17, .ref a_18, .int i_10, .int i_11, .int i_12, .int i_13, .int i_14, .int i_15, .ref a_19, .int i_16, .ref a_20])), (a_5, .inl (cy 0, 600, .inl f_0)), (a_6, .inl (cy 1, 5, .inl (mm_g [i_17, i_18, i_19, i_20, v1015]))), (a_7, .inl (cy 1, 30, .inl (mm_g [i_22, i_23, i_24, i_25, i_26, i_27, i_28, i_29, i_30, i_31, i_32, i_33, i_34, i_35, i_36, i_37, i_38, i_39, i_40, i_41, i_42, i_43, i_44, i_45, v984, v1001, w13_3_26_822, w13_3_27_823, w13_3_28_824, 0]))), (a_8, .inl (cy 1, 90, .inl z13_4_825)), (a_9, .inl (cy 1, 15, .inl z13_5_826)), (a_10, .inl (cy 1, 1050, .inl z13_6_827)), (a_11, .inl (cy 1, 30, .inl z13_7_828)), (a_12, .inl (cy 1, 240, .inl z13_8_829)), (a_13, .inl (cy 1, 450, .inl f_6))] H) (hD : va_D A [(a_0, .inr (12, [.int 0, .ref a_1, .ref a_2, .ref a_3, .ref a_4, .ref a_5, .int i_1, .int n994, .int n995, .int n996, .int n997, .long n998, .int n999, .int n1000, .int i_8, .int i_9, .ref a_6, .ref a_7, .ref a_8, .ref a_9, .ref a_10, .ref a_11, .ref a_12, .ref a_13, .ref a_14, .ref a_15, .ref a_16, .ref a_17, .ref a_18, .int i_10, .int i_11, .int i_12, .int i_13, .int i_14, .int i_15, .ref a_19, .int i_16, .ref a_20])), (a_5, .inl (cy 0, 600, .inl f_0)), (a_6, .inl (cy 1, 5, .inl (mm_g [i_17, i_18, i_19, i_20, v1015]))), (a_7, .inl (cy 1, 30, .inl (mm_g [i_22, i_23, i_24, i_25, i_26, i_27, i_28, i_29, i_30, i_31, i_32, i_33, i_34, i_35, i_36, i_37, i_38, i_39, i_40, i_41, i_42, i_43, i_44, i_45, v984, v1001, w13_3_26_822, w13_3_27_823, w13_3_28_824, 0]))), (a_8, .inl (cy 1, 90, .inl z13_4_825)), (a_9, .inl (cy 1, 15, .inl z13_5_826)), (a_10, .inl (cy 1, 1050, .inl z13_6_827)), (a_11, .inl (cy 1, 30, .inl z13_7_828)), (a_12, .inl (cy 1, 240, .inl z13_8_829)), (a_13, .inl (cy 1, 450, .inl f_6))]) hS
                  refine lv_goto (tgt := 13) hx hb dX12_book_101 (by decide) ?_
                  exact ih13 n994 n995 n996 n997 n998 n999 n1000 v1015 v984 v1001 w13_3_26_822 w13_3_27_823 w13_3_28_824 z13_4_825 z13_5_826 z13_6_827 z13_7_828 z13_8_829 w1002 w1003 w1004 (mm_wk w1012 (by decide)) (mm_wk rv1015 (by decide)) w993 w1010 rw13_3_26_822 rw13_3_27_823 rw13_3_28_824 rz13_4_825 rz13_5_826 rz13_6_827 rz13_7_828 rz13_8_829 w1006 w1007 w1008 (mm_lp_n w1012 (by decide)) w834 w835 w836 w837 w838 w839 w840 (mm_tl_1 rv1015 (by decide)) (mm_bm hm13 w845 (mm_go_n w1012 (by decide)) w1004) H locs hP hD hS ls (lv_sub hl [0] rfl)
                · have q1016 := mm_neL (lo := 1) (mm_ne c1014) mm_k0 mm_k0 (by decide) (by decide)
                  exact mm_no q1016 (by decide)
              · refine lv_if_eq (tgt := 91) hx hb dX12_book_84 (by decide) (fun c1017 => ?_) (fun c1017 => ?_)
                · exact mm_eqN c1017.symm mm_k0 mm_k1 (by decide)
                · refine lv_aload_n hx hb dX12_book_87 rfl (lv_at hl 0 rfl) ?_
                  refine mm_finv (va_runV (As := []) (rest := []) ⟨hx, hb, hml, hown, hts⟩ (M46_X12_ends l G cy H.size a_0 0 a_1 a_2 a_3 a_4 a_5 i_1 n994 n995 n996 n997 n998 n999 n1000 i_8 i_9 a_6 a_7 a_8 a_9 a_10 a_11 a_12 a_13 a_14 a_15 a_16 a_17 a_18 i_10 i_11 i_12 i_13 i_14 i_15 a_19 i_16 a_20 f_0 h0 w1002 w1003 w1004 (mm_wk w1013 (by decide)) h5 w1006 w1007 w1008) (cwV 0 hts (mm_gV mm_w544 mm_w545 mm_w546 mm_w5 mm_w547) rfl rfl rfl hd_X12_ends ⟨by rw [hRf]; exact Nat.le_of_ble_eq_true rfl, by rw [hRl]; exact Nat.le_of_ble_eq_true rfl⟩) (mm_preV hK hZ hS hA hP hD [0, 1] rfl rfl 0 rfl rfl rfl) rfl rfl hl.1 rfl (lv_room (Nat.le_of_ble_eq_true rfl)) dX12_book_88 ⟨by rw [hRc]; exact Nat.le_of_ble_eq_true rfl, by rw [hRs]; exact Nat.le_of_ble_eq_true rfl⟩) hP hD hS hA (fun u : Int32 × Int32 × Int32 × Int32 × Int64 × Int32 × Int32 => [(a_0, .inr (12, [.int 0, .ref a_1, .ref a_2, .ref a_3, .ref a_4, .ref a_5, .int i_1, .int u.1, .int u.2.1, .int u.2.2.1, .int u.2.2.2.1, .long u.2.2.2.2.1, .int u.2.2.2.2.2.1, .int u.2.2.2.2.2.2, .int i_8, .int i_9, .ref a_6, .ref a_7, .ref a_8, .ref a_9, .ref a_10, .ref a_11, .ref a_12, .ref a_13, .ref a_14, .ref a_15, .ref a_16, .ref a_17, .ref a_18, .int i_10, .int i_11, .int i_12, .int i_13, .int i_14, .int i_15, .ref a_19, .int i_16, .ref a_20])), (a_5, .inl (cy 0, 600, .inl f_0)), (a_6, .inl (cy 1, 5, .inl (mm_g [i_17, i_18, i_19, i_20, w13_2_4_819]))), (a_7, .inl (cy 1, 30, .inl (mm_g [i_22, i_23, i_24, i_25, i_26, i_27, i_28, i_29, i_30, i_31, i_32, i_33, i_34, i_35, i_36, i_37, i_38, i_39, i_40, i_41, i_42, i_43, i_44, i_45, v984, v1001, w13_3_26_822, w13_3_27_823, w13_3_28_824, 0]))), (a_8, .inl (cy 1, 90, .inl z13_4_825)), (a_9, .inl (cy 1, 15, .inl z13_5_826)), (a_10, .inl (cy 1, 1050, .inl z13_6_827)), (a_11, .inl (cy 1, 30, .inl z13_7_828)), (a_12, .inl (cy 1, 240, .inl z13_8_829)), (a_13, .inl (cy 1, 450, .inl f_6))]) [0, 1] [2, 3, 4, 5, 6, 7, 8, 9] (n := 10) (fun _ => rfl) (by decide +kernel) (by decide +kernel) rfl (fun _ => rfl) (wr := [(a_6, .inl (cy 1, 5, .inl (mm_g [i_17, i_18, i_19, i_20, w13_2_4_819]))), (a_7, .inl (cy 1, 30, .inl (mm_g [i_22, i_23, i_24, i_25, i_26, i_27, i_28, i_29, i_30, i_31, i_32, i_33, i_34, i_35, i_36, i_37, i_38, i_39, i_40, i_41, i_42, i_43, i_44, i_45, v984, v1001, w13_3_26_822, w13_3_27_823, w13_3_28_824, 0]))), (a_8, .inl (cy 1, 90, .inl z13_4_825)), (a_9, .inl (cy 1, 15, .inl z13_5_826)), (a_10, .inl (cy 1, 1050, .inl z13_6_827)), (a_11, .inl (cy 1, 30, .inl z13_7_828)), (a_12, .inl (cy 1, 240, .inl z13_8_829)), (a_13, .inl (cy 1, 450, .inl f_6))]) rfl (fun _ => rfl) (fun _ => rfl) ?_
                  clear hP hD hS
                  clear H locs
                  intro u
                  obtain ⟨n1018, n1019, n1020, n1021, n1022, n1023, n1024⟩ := u
                  intro H locs hw (hP : va_P G vwCl [(a_0, .inr (12, [.int 0, .ref a_1, .ref a_2, .ref a_3, .ref a_4, .ref a_5, .int i_1, .int n1018, .int n1019, .int n1020, .int n1021, .long n1022, .int n1023, .int n1024, .int i_8, .int i_9, .ref a_6, .ref a_7, .ref a_8, .ref a_9, .ref a_10, .ref a_11, .ref a_12, .ref a_13, .ref a_14, .ref a_15, .ref a_16, .ref a_17, .ref a_18, .int i_10, .int i_11, .int i_12, .int i_13, .int i_14, .int i_15, .ref a_19, .int i_16, .ref a_20])), (a_5, .inl (cy 0, 600, .inl f_0)), (a_6, .inl (cy 1, 5, .inl (mm_g [i_17, i_18, i_19, i_20, w13_2_4_819]))), (a_7, .inl (cy 1, 30, .inl (mm_g [i_22, i_23, i_24, i_25, i_26, i_27, i_28, i_29, i_30, i_31, i_32, i_33, i_34, i_35, i_36, i_37, i_38, i_39, i_40, i_41, i_42, i_43, i_44, i_45, v984, v1001, w13_3_26_822, w13_3_27_823, w13_3_28_824, 0]))), (a_8, .inl (cy 1, 90, .inl z13_4_825)), (a_9, .inl (cy 1, 15, .inl z13_5_826)), (a_10, .inl (cy 1, 1050, .inl z13_6_827)), (a_11, .inl (cy 1, 30, .inl z13_7_828)), (a_12, .inl (cy 1, 240, .inl z13_8_829)), (a_13, .inl (cy 1, 450, .inl f_6))] H) (hD : va_D A [(a_0, .inr (12, [.int 0, .ref a_1, .ref a_2, .ref a_3, .ref a_4, .ref a_5, .int i_1, .int n1018, .int n1019, .int n1020, .int n1021, .long n1022, .int n1023, .int n1024, .int i_8, .int i_9, .ref a_6, .ref a_7, .ref a_8, .ref a_9, .ref a_10, .ref a_11, .ref a_12, .ref a_13, .ref a_14, .ref a_15, .ref a_16, .ref a_17, .ref a_18, .int i_10, .int i_11, .int i_12, .int i_13, .int i_14, .int i_15, .ref a_19, .int i_16, .ref a_20])), (a_5, .inl (cy 0, 600, .inl f_0)), (a_6, .inl (cy 1, 5, .inl (mm_g [i_17, i_18, i_19, i_20, w13_2_4_819]))), (a_7, .inl (cy 1, 30, .inl (mm_g [i_22, i_23, i_24, i_25, i_26, i_27, i_28, i_29, i_30, i_31, i_32, i_33, i_34, i_35, i_36, i_37, i_38, i_39, i_40, i_41, i_42, i_43, i_44, i_45, v984, v1001, w13_3_26_822, w13_3_27_823, w13_3_28_824, 0]))), (a_8, .inl (cy 1, 90, .inl z13_4_825)), (a_9, .inl (cy 1, 15, .inl z13_5_826)), (a_10, .inl (cy 1, 1050, .inl z13_6_827)), (a_11, .inl (cy 1, 30, .inl z13_7_828)), (a_12, .inl (cy 1, 240, .inl z13_8_829)), (a_13, .inl (cy 1, 450, .inl f_6))]) hS
                  obtain ⟨w1025, w1026, w1027, w1028, w1029, w1030, w1031, w1032, w1033⟩ := hw
                  refine lv_aload_n hx hb dX12_book_91 rfl (lv_at hl 0 rfl) ?_
                  refine va_get (D := G) (ci := 12) (v := .ref a_6) (C := RX12) (T := TX12) (N := 38) hx hb hts (mm_i inlX12) hown hK.1 hP 0 rfl rfl 16 (by decide) (mm_h hts mm_w148) (fun _ h9 => h9) rfl dX12_book_92 ?_
                  refine lv_iconst (v := 4) hx hb dX12_book_95 (by decide) ?_
                  refine lv_dup2_11 hx hb dX12_book_96 rfl rfl ?_
                  refine va_iald hx hb hK.1 hP 2 1 rfl rfl (mm_in mm_k4 (by decide)) dX12_book_97 ?_
                  refine W.eq (g2 := F0 m 98 ls [.int w13_2_4_819, .int 4, .ref a_6]) rfl ?_
                  refine lv_iconst (v := 1) hx hb dX12_book_98 (by decide) ?_
                  refine lv_iadd hx hb dX12_book_99 ?_
                  refine lv_topi (fun v1034 ev1034 => ?_)
                  have rv1034 : mm_rg v1034 1 1 := mm_add ev1034 q961 mm_k1 (by decide) (by decide)
                  have tv1034 := mm_addEc ev1034 q961 mm_k1 (by decide) (k := 1) (by decide)
                  refine va_iast hx hb hK.1 hP hD hS 2 1 rfl rfl (mm_in mm_k4 (by decide)) dX12_book_100 ?_
                  clear hP hD hS
                  clear H locs
                  rw [show upd (mm_g [i_17, i_18, i_19, i_20, w13_2_4_819]) (4 : Int32).toNatClampNeg v1034 = (mm_g [i_17, i_18, i_19, i_20, v1034]) from mm_gs (by decide) rfl]
                  intro H locs (hP : va_P G vwCl [(a_0, .inr (12, [.int 0, .ref a_1, .ref a_2, .ref a_3, .ref a_4, .ref a_5, .int i_1, .int n1018, .int n1019, .int n1020, .int n1021, .long n1022, .int n1023, .int n1024, .int i_8, .int i_9, .ref a_6, .ref a_7, .ref a_8, .ref a_9, .ref a_10, .ref a_11, .ref a_12, .ref a_13, .ref a_14, .ref a_15, .ref a_16, .ref a_17, .ref a_18, .int i_10, .int i_11, .int i_12, .int i_13, .int i_14, .int i_15, .ref a_19, .int i_16, .ref a_20])), (a_5, .inl (cy 0, 600, .inl f_0)), (a_6, .inl (cy 1, 5, .inl (mm_g [i_17, i_18, i_19, i_20, v1034]))), (a_7, .inl (cy 1, 30, .inl (mm_g [i_22, i_23, i_24, i_25, i_26, i_27, i_28, i_29, i_30, i_31, i_32, i_33, i_34, i_35, i_36, i_37, i_38, i_39, i_40, i_41, i_42, i_43, i_44, i_45, v984, v1001, w13_3_26_822, w13_3_27_823, w13_3_28_824, 0]))), (a_8, .inl (cy 1, 90, .inl z13_4_825)), (a_9, .inl (cy 1, 15, .inl z13_5_826)), (a_10, .inl (cy 1, 1050, .inl z13_6_827)), (a_11, .inl (cy 1, 30, .inl z13_7_828)), (a_12, .inl (cy 1, 240, .inl z13_8_829)), (a_13, .inl (cy 1, 450, .inl f_6))] H) (hD : va_D A [(a_0, .inr (12, [.int 0, .ref a_1, .ref a_2, .ref a_3, .ref a_4, .ref a_5, .int i_1, .int n1018, .int n1019, .int n1020, .int n1021, .long n1022, .int n1023, .int n1024, .int i_8, .int i_9, .ref a_6, .ref a_7, .ref a_8, .ref a_9, .ref a_10, .ref a_11, .ref a_12, .ref a_13, .ref a_14, .ref a_15, .ref a_16, .ref a_17, .ref a_18, .int i_10, .int i_11, .int i_12, .int i_13, .int i_14, .int i_15, .ref a_19, .int i_16, .ref a_20])), (a_5, .inl (cy 0, 600, .inl f_0)), (a_6, .inl (cy 1, 5, .inl (mm_g [i_17, i_18, i_19, i_20, v1034]))), (a_7, .inl (cy 1, 30, .inl (mm_g [i_22, i_23, i_24, i_25, i_26, i_27, i_28, i_29, i_30, i_31, i_32, i_33, i_34, i_35, i_36, i_37, i_38, i_39, i_40, i_41, i_42, i_43, i_44, i_45, v984, v1001, w13_3_26_822, w13_3_27_823, w13_3_28_824, 0]))), (a_8, .inl (cy 1, 90, .inl z13_4_825)), (a_9, .inl (cy 1, 15, .inl z13_5_826)), (a_10, .inl (cy 1, 1050, .inl z13_6_827)), (a_11, .inl (cy 1, 30, .inl z13_7_828)), (a_12, .inl (cy 1, 240, .inl z13_8_829)), (a_13, .inl (cy 1, 450, .inl f_6))]) hS
                  refine lv_goto (tgt := 13) hx hb dX12_book_101 (by decide) ?_
                  exact ih13 n1018 n1019 n1020 n1021 n1022 n1023 n1024 v1034 v984 v1001 w13_3_26_822 w13_3_27_823 w13_3_28_824 z13_4_825 z13_5_826 z13_6_827 z13_7_828 z13_8_829 w1025 w1026 w1027 w1028 (mm_wk rv1034 (by decide)) w993 w1010 rw13_3_26_822 rw13_3_27_823 rw13_3_28_824 rz13_4_825 rz13_5_826 rz13_6_827 rz13_7_828 rz13_8_829 w1029 w1030 w1031 (mm_lp_s w1033 (mm_leC q961 w1004 (by decide)) tv1034) w834 w835 w836 w837 w838 w839 w840 (mm_tl_1 rv1034 (by decide)) (mm_bm hm13 w845 (mm_go_t w1033 (by have := w976; have := w992; have := w1009; omega)) w1027) H locs hP hD hS ls (lv_sub hl [0] rfl)
  exact L13_841 _ n5 n6 n7 n8 n9 0 (-1) 0 0 0 0 0 0 f_1 n1 f_3 f_4 f_5 w10 w11 w12 (mm_wk mm_k0 (by decide)) (mm_wk mm_k0 (by decide)) (mm_wk mm_k0 (by decide)) (mm_wk mm_k0 (by decide)) (mm_wk mm_k0 (by decide)) (mm_wk mm_k0 (by decide)) (mm_wk mm_k0 (by decide)) h41 w2 h43 h44 h45 w13 w14 w15 (mm_lp_l w12 (by decide) (by decide)) w4 (mm_fr_r _ _) (mm_fr_r _ _) (mm_fr_r _ _) (mm_rls_z mm_k0 (by decide)) (mm_txs_z mm_k0 (by decide)) (mm_acs_z mm_k0 (by decide)) w3 (Nat.lt_succ_self _) H locs hP hD hS ls (lv_sub hl [0] rfl)

set_option maxHeartbeats 4000000 in
set_option maxRecDepth 100000 in
theorem M91_X12_fault (l : Launch) (G : va_G) (cy : Nat → ClassId) (sz : Nat) (a_0 : Nat) (i_0 : Int32) (i_1 : Int32) (a_1 : Nat) (a_2 : Nat) (a_3 : Nat) (a_4 : Nat) (a_5 : Nat) (i_2 : Int32) (i_3 : Int32) (i_4 : Int32) (i_5 : Int32) (i_6 : Int32) (j_0 : Int64) (i_7 : Int32) (i_8 : Int32) (i_9 : Int32) (i_10 : Int32) (a_6 : Nat) (a_7 : Nat) (a_8 : Nat) (a_9 : Nat) (a_10 : Nat) (a_11 : Nat) (a_12 : Nat) (a_13 : Nat) (a_14 : Nat) (a_15 : Nat) (a_16 : Nat) (a_17 : Nat) (a_18 : Nat) (i_11 : Int32) (i_12 : Int32) (i_13 : Int32) (i_14 : Int32) (i_15 : Int32) (i_16 : Int32) (a_19 : Nat) (i_17 : Int32) (a_20 : Nat)   : mm_CI l yX12_fault (mm_ws yX12_fault cX12_fault 2 (some .int)) ({ frames := 0, cells := 0, slots := 0, locals := 0 } : Room) G cy sz [(a_0, .inr (12, [.int i_1, .ref a_1, .ref a_2, .ref a_3, .ref a_4, .ref a_5, .int i_2, .int i_3, .int i_4, .int i_5, .int i_6, .long j_0, .int i_7, .int i_8, .int i_9, .int i_10, .ref a_6, .ref a_7, .ref a_8, .ref a_9, .ref a_10, .ref a_11, .ref a_12, .ref a_13, .ref a_14, .ref a_15, .ref a_16, .ref a_17, .ref a_18, .int i_11, .int i_12, .int i_13, .int i_14, .int i_15, .int i_16, .ref a_19, .int i_17, .ref a_20]))] [.ref a_0, .int i_0] (fun u : Unit => [(a_0, .inr (12, [.int 0, .ref a_1, .ref a_2, .ref a_3, .ref a_4, .ref a_5, .int i_2, .int i_3, .int i_4, .int i_5, .int i_6, .long j_0, .int i_7, .int i_8, .int i_9, .int i_10, .ref a_6, .ref a_7, .ref a_8, .ref a_9, .ref a_10, .ref a_11, .ref a_12, .ref a_13, .ref a_14, .ref a_15, .ref a_16, .ref a_17, .ref a_18, .int i_11, .int i_12, .int i_13, .int i_14, .int i_15, .int i_16, .ref a_19, .int i_17, .ref a_20]))]) (fun (r : Int32) (u : Unit) => True) 0 0 := by
  refine mm_begin (lv := [(0, .ref a_0), (1, .int i_0)]) (by decide) (Nat.le_of_ble_eq_true rfl) rfl ?_
  intro p e s m below meth c A ls R args Q H locs hRe hQ hAe hx hb hr hlocks hml hown hnm hts hsz hA hS hP hK hD hZ hl
  have hRf : R.frames = 0 := by rw [hRe]
  have hRl : R.locals = 0 := by rw [hRe]
  have hRc : R.cells = 0 := by rw [hRe]
  have hRs : R.slots = 0 := by rw [hRe]
  refine lv_aload_n hx hb dX12_fault_0 rfl (lv_at hl 0 rfl) ?_
  refine lv_iconst (v := 0) hx hb dX12_fault_1 (by decide) ?_
  refine va_put (D := G) (ci := 12) (v := .int 0) (ty := tyX12 0) (C := RX12) (T := TX12) (N := 38) hx hb hts (mm_i inlX12) tyX12 tyX12_ok nmX12 hown hK.1 hP hD hS 0 rfl rfl 0 (by decide) (mm_h hts mm_w177) (fun _ h9 => h9) rfl (tyX12_ok 0 (by decide)) rfl rfl (Nat.le_of_ble_eq_true rfl) dX12_fault_2 ?_
  clear hP hD hS
  clear H locs
  intro H locs (hP : va_P G vwCl [(a_0, .inr (12, [.int 0, .ref a_1, .ref a_2, .ref a_3, .ref a_4, .ref a_5, .int i_2, .int i_3, .int i_4, .int i_5, .int i_6, .long j_0, .int i_7, .int i_8, .int i_9, .int i_10, .ref a_6, .ref a_7, .ref a_8, .ref a_9, .ref a_10, .ref a_11, .ref a_12, .ref a_13, .ref a_14, .ref a_15, .ref a_16, .ref a_17, .ref a_18, .int i_11, .int i_12, .int i_13, .int i_14, .int i_15, .int i_16, .ref a_19, .int i_17, .ref a_20]))] H) (hD : va_D A [(a_0, .inr (12, [.int 0, .ref a_1, .ref a_2, .ref a_3, .ref a_4, .ref a_5, .int i_2, .int i_3, .int i_4, .int i_5, .int i_6, .long j_0, .int i_7, .int i_8, .int i_9, .int i_10, .ref a_6, .ref a_7, .ref a_8, .ref a_9, .ref a_10, .ref a_11, .ref a_12, .ref a_13, .ref a_14, .ref a_15, .ref a_16, .ref a_17, .ref a_18, .int i_11, .int i_12, .int i_13, .int i_14, .int i_15, .int i_16, .ref a_19, .int i_17, .ref a_20]))]) hS
  refine lv_iload_n hx hb dX12_fault_5 rfl (lv_at hl 1 rfl) ?_
  refine lv_if_ne (tgt := 16) hx hb dX12_fault_6 (by decide) (fun c1 => ?_) (fun c1 => ?_)
  · refine lv_iload_n hx hb dX12_fault_16 rfl (lv_at hl 1 rfl) ?_
    refine lv_iconst (v := 1) hx hb dX12_fault_17 (by decide) ?_
    refine lv_icmp_ne (tgt := 28) hx hb dX12_fault_18 (by decide) (fun c2 => ?_) (fun c2 => ?_)
    · refine lv_iconst (v := (-1)) hx hb dX12_fault_28 (by decide) ?_
      subst hAe
      rw [hQ]
      exact W.iret (v := (-1)) hx hb hr (fun t ht hW => ⟨⟨(-1), (), rfl, trivial, by rw [ht]; exact hP, hK.warm hW, hD⟩, hS.F ht⟩) hS.2.2 dX12_fault_29
    · have q3 := mm_eqI (lo := 1) (hi := 1) c2 (mm_top i_0) mm_k1 (by decide)
      refine lv_aload_n hx hb dX12_fault_21 rfl (lv_at hl 0 rfl) ?_
      refine va_get (D := G) (ci := 12) (v := .int i_10) (C := RX12) (T := TX12) (N := 38) hx hb hts (mm_i inlX12) hown hK.1 hP 0 rfl rfl 15 (by decide) (mm_h hts mm_w147) (fun _ h9 => h9) rfl dX12_fault_22 ?_
      refine lv_goto (tgt := 29) hx hb dX12_fault_25 (by decide) ?_
      subst hAe
      rw [hQ]
      exact W.iret (v := i_10) hx hb hr (fun t ht hW => ⟨⟨i_10, (), rfl, trivial, by rw [ht]; exact hP, hK.warm hW, hD⟩, hS.F ht⟩) hS.2.2 dX12_fault_29
  · have q4 := mm_eqI (lo := 0) (hi := 0) c1 (mm_top i_0) mm_k0 (by decide)
    refine lv_aload_n hx hb dX12_fault_9 rfl (lv_at hl 0 rfl) ?_
    refine va_get (D := G) (ci := 12) (v := .int i_9) (C := RX12) (T := TX12) (N := 38) hx hb hts (mm_i inlX12) hown hK.1 hP 0 rfl rfl 14 (by decide) (mm_h hts mm_w552) (fun _ h9 => h9) rfl dX12_fault_10 ?_
    refine lv_goto (tgt := 29) hx hb dX12_fault_13 (by decide) ?_
    subst hAe
    rw [hQ]
    exact W.iret (v := i_9) hx hb hr (fun t ht hW => ⟨⟨i_9, (), rfl, trivial, by rw [ht]; exact hP, hK.warm hW, hD⟩, hS.F ht⟩) hS.2.2 dX12_fault_29

set_option maxHeartbeats 4000000 in
set_option maxRecDepth 100000 in
theorem M92_X12_senses (l : Launch) (G : va_G) (cy : Nat → ClassId) (sz : Nat) (a_0 : Nat) (i_0 : Int32) (a_1 : Nat) (a_2 : Nat) (a_3 : Nat) (a_4 : Nat) (a_5 : Nat) (i_1 : Int32) (i_2 : Int32) (i_3 : Int32) (i_4 : Int32) (i_5 : Int32) (j_0 : Int64) (i_6 : Int32) (i_7 : Int32) (i_8 : Int32) (i_9 : Int32) (a_6 : Nat) (a_7 : Nat) (a_8 : Nat) (a_9 : Nat) (a_10 : Nat) (a_11 : Nat) (a_12 : Nat) (a_13 : Nat) (a_14 : Nat) (a_15 : Nat) (a_16 : Nat) (a_17 : Nat) (a_18 : Nat) (i_10 : Int32) (i_11 : Int32) (i_12 : Int32) (i_13 : Int32) (i_14 : Int32) (i_15 : Int32) (a_19 : Nat) (i_16 : Int32) (a_20 : Nat) (i_17 : Int32) (i_18 : Int32) (i_19 : Int32) (i_20 : Int32) (i_21 : Int32) (i_22 : Int32) (i_23 : Int32) (i_24 : Int32) (i_25 : Int32) (i_26 : Int32) (i_27 : Int32) (i_28 : Int32) (i_29 : Int32) (i_30 : Int32) (i_31 : Int32) (i_32 : Int32) (i_33 : Int32) (i_34 : Int32) (i_35 : Int32) (i_36 : Int32) (i_37 : Int32) (i_38 : Int32) (i_39 : Int32) (i_40 : Int32) (i_41 : Int32) (i_42 : Int32) (i_43 : Int32) (i_44 : Int32) (i_45 : Int32) (i_46 : Int32) (h0 : mm_rg i_17 0 10) (h1 : mm_rg i_18 0 99) (h2 : mm_rg i_19 0 9) (h3 : mm_rg i_20 0 3) (h4 : mm_rg i_21 0 6) (h5 : mm_rg i_22 0 30) (h6 : mm_rg i_23 0 10) (h7 : mm_rg i_24 0 99) (h8 : mm_rg i_25 0 9) (h9 : mm_rg i_26 0 3) (h10 : mm_rg i_27 0 6) (h11 : mm_rg i_28 0 30) (h12 : mm_rg i_29 0 10) (h13 : mm_rg i_30 0 99) (h14 : mm_rg i_31 0 9) (h15 : mm_rg i_32 0 3) (h16 : mm_rg i_33 0 6) (h17 : mm_rg i_34 0 30) (h18 : mm_rg i_35 0 10) (h19 : mm_rg i_36 0 99) (h20 : mm_rg i_37 0 9) (h21 : mm_rg i_38 0 3) (h22 : mm_rg i_39 0 6) (h23 : mm_rg i_40 0 30) (h24 : mm_rg i_41 0 10) (h25 : mm_rg i_42 0 99) (h26 : mm_rg i_43 0 9) (h27 : mm_rg i_44 0 3) (h28 : mm_rg i_45 0 6) (h29 : mm_rg i_46 0 30)  : mm_CI l yX12_senses (mm_ws yX12_senses cX12_senses 1 (some .int)) ({ frames := 0, cells := 0, slots := 0, locals := 0 } : Room) G cy sz [(a_0, .inr (12, [.int i_0, .ref a_1, .ref a_2, .ref a_3, .ref a_4, .ref a_5, .int i_1, .int i_2, .int i_3, .int i_4, .int i_5, .long j_0, .int i_6, .int i_7, .int i_8, .int i_9, .ref a_6, .ref a_7, .ref a_8, .ref a_9, .ref a_10, .ref a_11, .ref a_12, .ref a_13, .ref a_14, .ref a_15, .ref a_16, .ref a_17, .ref a_18, .int i_10, .int i_11, .int i_12, .int i_13, .int i_14, .int i_15, .ref a_19, .int i_16, .ref a_20])), (a_7, .inl (cy 1, 30, .inl (mm_g [i_17, i_18, i_19, i_20, i_21, i_22, i_23, i_24, i_25, i_26, i_27, i_28, i_29, i_30, i_31, i_32, i_33, i_34, i_35, i_36, i_37, i_38, i_39, i_40, i_41, i_42, i_43, i_44, i_45, i_46])))] [.ref a_0] (fun u : Unit => [(a_0, .inr (12, [.int i_0, .ref a_1, .ref a_2, .ref a_3, .ref a_4, .ref a_5, .int i_1, .int i_2, .int i_3, .int i_4, .int i_5, .long j_0, .int i_6, .int i_7, .int i_8, .int i_9, .ref a_6, .ref a_7, .ref a_8, .ref a_9, .ref a_10, .ref a_11, .ref a_12, .ref a_13, .ref a_14, .ref a_15, .ref a_16, .ref a_17, .ref a_18, .int i_10, .int i_11, .int i_12, .int i_13, .int i_14, .int i_15, .ref a_19, .int i_16, .ref a_20])), (a_7, .inl (cy 1, 30, .inl (mm_g [i_17, i_18, i_19, i_20, i_21, i_22, i_23, i_24, i_25, i_26, i_27, i_28, i_29, i_30, i_31, i_32, i_33, i_34, i_35, i_36, i_37, i_38, i_39, i_40, i_41, i_42, i_43, i_44, i_45, i_46])))]) (fun (r : Int32) (u : Unit) => i_19 = r) 0 0 := by
  refine mm_begin (lv := [(0, .ref a_0)]) (by decide) (Nat.le_of_ble_eq_true rfl) rfl ?_
  intro p e s m below meth c A ls R args Q H locs hRe hQ hAe hx hb hr hlocks hml hown hnm hts hsz hA hS hP hK hD hZ hl
  have hRf : R.frames = 0 := by rw [hRe]
  have hRl : R.locals = 0 := by rw [hRe]
  have hRc : R.cells = 0 := by rw [hRe]
  have hRs : R.slots = 0 := by rw [hRe]
  refine lv_aload_n hx hb dX12_senses_0 rfl (lv_at hl 0 rfl) ?_
  refine va_get (D := G) (ci := 12) (v := .ref a_7) (C := RX12) (T := TX12) (N := 38) hx hb hts (mm_i inlX12) hown hK.1 hP 0 rfl rfl 17 (by decide) (mm_h hts mm_w149) (fun _ h9 => h9) rfl dX12_senses_1 ?_
  refine lv_iconst (v := 2) hx hb dX12_senses_4 (by decide) ?_
  refine va_iald hx hb hK.1 hP 1 1 rfl rfl (mm_in mm_k2 (by decide)) dX12_senses_5 ?_
  refine W.eq (g2 := F0 m 6 ls [.int i_19]) rfl ?_
  subst hAe
  rw [hQ]
  exact W.iret (v := i_19) hx hb hr (fun t ht hW => ⟨⟨i_19, (), rfl, rfl, by rw [ht]; exact hP, hK.warm hW, hD⟩, hS.F ht⟩) hS.2.2 dX12_senses_6

set_option maxHeartbeats 4000000 in
set_option maxRecDepth 100000 in
theorem M93_X12_isHalf (l : Launch) (G : va_G) (cy : Nat → ClassId) (sz : Nat) (i_0 : Int32)   : mm_CI l yX12_isHalf (mm_ws yX12_isHalf cX12_isHalf 1 (some .boolean)) ({ frames := 1, cells := 0, slots := 0, locals := 25 } : Room) G cy sz [] [.int i_0] (fun u : Unit => []) (fun (r : Int32) (u : Unit) => ((0 = r) ∨ (1 = r ∧ mm_rg i_0 0 1))) 0 0 := by
  refine mm_begin (lv := [(0, .int i_0)]) (by decide) (Nat.le_of_ble_eq_true rfl) rfl ?_
  intro p e s m below meth c A ls R args Q H locs hRe hQ hAe hx hb hr hlocks hml hown hnm hts hsz hA hS hP hK hD hZ hl
  have hRf : R.frames = 1 := by rw [hRe]
  have hRl : R.locals = 25 := by rw [hRe]
  have hRc : R.cells = 0 := by rw [hRe]
  have hRs : R.slots = 0 := by rw [hRe]
  refine lv_iload_n hx hb dX12_isHalf_0 rfl (lv_at hl 0 rfl) ?_
  obtain ⟨v1, ev1⟩ : ∃ y : Int64, y = i_0.toInt64 := ⟨_, rfl⟩
  refine lv_i2l hx hb dX12_isHalf_1 ev1.symm ?_
  have rv1 : mm_rl v1 (-2147483648) 2147483647 := mm_i2l ev1 (mm_top i_0)
  refine lv_lconst (v := 0) hx hb dX12_isHalf_2 (by decide) ?_
  refine lv_lconst (v := 1) hx hb dX12_isHalf_3 (by decide) ?_
  refine mm_finir (va_runS (As := [.long v1, .long 0, .long 1]) (rest := []) ⟨hx, hb, hml, hown, hts⟩ (M7_X12_in l G cy H.size v1 1 ) (va_cwS 3 hts (mm_gS mm_w191 mm_w192 mm_w5 mm_w193) rfl rfl rfl hs_X12_in ⟨by rw [hRf]; exact Nat.le_of_ble_eq_true rfl, by rw [hRl]; exact Nat.le_of_ble_eq_true rfl⟩) (mm_preS hK hZ hS hA hP hD [] rfl rfl) rfl rfl hl.1 rfl (lv_room (Nat.le_of_ble_eq_true rfl)) dX12_isHalf_4 ⟨by rw [hRc]; exact Nat.le_of_ble_eq_true rfl, by rw [hRs]; exact Nat.le_of_ble_eq_true rfl⟩) hP hD hS hA [] rfl (fun _ => rfl) ?_
  clear hP hD hS
  clear H locs
  intro v2 _u H locs hw hP hD hS
  rcases hw with ⟨rfl, w3⟩ | ⟨rfl, w4, w5, w6, w7⟩
  · subst hAe
    rw [hQ]
    exact W.zret (v := 0) hx hb hr rfl (fun t ht hW => ⟨⟨0, (), rfl, (Or.inl rfl), by rw [ht]; exact hP, hK.warm hW, hD⟩, hS.F ht⟩) hS.2.2 dX12_isHalf_7
  · have q8 := mm_meetl (lo := 0) (hi := 2147483647) w4 rv1 (by decide)
    have q9 := mm_meet (lo := 0) (hi := 2147483647) (mm_l2x ev1 q8) (mm_top i_0) (by decide)
    have q10 := mm_leLl w6 q8 mm_kl1
    have q11 := mm_meet (lo := 0) (hi := 1) (mm_l2x ev1 q10) q9 (by decide)
    subst hAe
    rw [hQ]
    exact W.zret (v := 1) hx hb hr rfl (fun t ht hW => ⟨⟨1, (), rfl, (Or.inr ⟨rfl, q11⟩), by rw [ht]; exact hP, hK.warm hW, hD⟩, hS.F ht⟩) hS.2.2 dX12_isHalf_7

set_option maxHeartbeats 4000000 in
set_option maxRecDepth 100000 in
theorem M94_X12_sense (l : Launch) (G : va_G) (cy : Nat → ClassId) (sz : Nat) (a_0 : Nat) (i_0 : Int32) (i_1 : Int32) (i_2 : Int32) (a_1 : Nat) (a_2 : Nat) (a_3 : Nat) (a_4 : Nat) (a_5 : Nat) (i_3 : Int32) (i_4 : Int32) (i_5 : Int32) (i_6 : Int32) (i_7 : Int32) (j_0 : Int64) (i_8 : Int32) (i_9 : Int32) (i_10 : Int32) (i_11 : Int32) (a_6 : Nat) (a_7 : Nat) (a_8 : Nat) (a_9 : Nat) (a_10 : Nat) (a_11 : Nat) (a_12 : Nat) (a_13 : Nat) (a_14 : Nat) (a_15 : Nat) (a_16 : Nat) (a_17 : Nat) (a_18 : Nat) (i_12 : Int32) (i_13 : Int32) (i_14 : Int32) (i_15 : Int32) (i_16 : Int32) (i_17 : Int32) (a_19 : Nat) (i_18 : Int32) (a_20 : Nat) (i_19 : Int32) (i_20 : Int32) (i_21 : Int32) (i_22 : Int32) (i_23 : Int32) (i_24 : Int32) (i_25 : Int32) (i_26 : Int32) (i_27 : Int32) (i_28 : Int32) (i_29 : Int32) (i_30 : Int32) (i_31 : Int32) (i_32 : Int32) (i_33 : Int32) (i_34 : Int32) (i_35 : Int32) (i_36 : Int32) (i_37 : Int32) (i_38 : Int32) (i_39 : Int32) (i_40 : Int32) (i_41 : Int32) (i_42 : Int32) (i_43 : Int32) (i_44 : Int32) (i_45 : Int32) (i_46 : Int32) (i_47 : Int32) (i_48 : Int32) (f_0 : Nat → Int32) (h0 : mm_rg i_19 0 10) (h1 : mm_rg i_20 0 99) (h2 : mm_rg i_21 0 9) (h3 : mm_rg i_22 0 3) (h4 : mm_rg i_23 0 6) (h5 : mm_rg i_24 0 30) (h6 : mm_rg i_25 0 10) (h7 : mm_rg i_26 0 99) (h8 : mm_rg i_27 0 9) (h9 : mm_rg i_28 0 3) (h10 : mm_rg i_29 0 6) (h11 : mm_rg i_30 0 30) (h12 : mm_rg i_31 0 10) (h13 : mm_rg i_32 0 99) (h14 : mm_rg i_33 0 9) (h15 : mm_rg i_34 0 3) (h16 : mm_rg i_35 0 6) (h17 : mm_rg i_36 0 30) (h18 : mm_rg i_37 0 10) (h19 : mm_rg i_38 0 99) (h20 : mm_rg i_39 0 9) (h21 : mm_rg i_40 0 3) (h22 : mm_rg i_41 0 6) (h23 : mm_rg i_42 0 30) (h24 : mm_rg i_43 0 10) (h25 : mm_rg i_44 0 99) (h26 : mm_rg i_45 0 9) (h27 : mm_rg i_46 0 3) (h28 : mm_rg i_47 0 6) (h29 : mm_rg i_48 0 30) (h30 : mm_ar f_0 0 99)  : mm_CI l yX12_sense (mm_ws yX12_sense cX12_sense 3 (some .int)) ({ frames := 2, cells := 0, slots := 0, locals := 45 } : Room) G cy sz [(a_0, .inr (12, [.int i_2, .ref a_1, .ref a_2, .ref a_3, .ref a_4, .ref a_5, .int i_3, .int i_4, .int i_5, .int i_6, .int i_7, .long j_0, .int i_8, .int i_9, .int i_10, .int i_11, .ref a_6, .ref a_7, .ref a_8, .ref a_9, .ref a_10, .ref a_11, .ref a_12, .ref a_13, .ref a_14, .ref a_15, .ref a_16, .ref a_17, .ref a_18, .int i_12, .int i_13, .int i_14, .int i_15, .int i_16, .int i_17, .ref a_19, .int i_18, .ref a_20])), (a_7, .inl (cy 1, 30, .inl (mm_g [i_19, i_20, i_21, i_22, i_23, i_24, i_25, i_26, i_27, i_28, i_29, i_30, i_31, i_32, i_33, i_34, i_35, i_36, i_37, i_38, i_39, i_40, i_41, i_42, i_43, i_44, i_45, i_46, i_47, i_48]))), (a_8, .inl (cy 1, 90, .inl f_0))] [.ref a_0, .int i_0, .int i_1] (fun u : Unit => [(a_0, .inr (12, [.int 0, .ref a_1, .ref a_2, .ref a_3, .ref a_4, .ref a_5, .int i_3, .int i_4, .int i_5, .int i_6, .int i_7, .long j_0, .int i_8, .int i_9, .int i_10, .int i_11, .ref a_6, .ref a_7, .ref a_8, .ref a_9, .ref a_10, .ref a_11, .ref a_12, .ref a_13, .ref a_14, .ref a_15, .ref a_16, .ref a_17, .ref a_18, .int i_12, .int i_13, .int i_14, .int i_15, .int i_16, .int i_17, .ref a_19, .int i_18, .ref a_20])), (a_7, .inl (cy 1, 30, .inl (mm_g [i_19, i_20, i_21, i_22, i_23, i_24, i_25, i_26, i_27, i_28, i_29, i_30, i_31, i_32, i_33, i_34, i_35, i_36, i_37, i_38, i_39, i_40, i_41, i_42, i_43, i_44, i_45, i_46, i_47, i_48]))), (a_8, .inl (cy 1, 90, .inl f_0))]) (fun (r : Int32) (u : Unit) => mm_rg r (-2) 99) 0 0 := by
  refine mm_begin (lv := [(0, .ref a_0), (1, .int i_0), (2, .int i_1)]) (by decide) (Nat.le_of_ble_eq_true rfl) rfl ?_
  intro p e s m below meth c A ls R args Q H locs hRe hQ hAe hx hb hr hlocks hml hown hnm hts hsz hA hS hP hK hD hZ hl
  have hRf : R.frames = 2 := by rw [hRe]
  have hRl : R.locals = 45 := by rw [hRe]
  have hRc : R.cells = 0 := by rw [hRe]
  have hRs : R.slots = 0 := by rw [hRe]
  refine lv_aload_n hx hb dX12_sense_0 rfl (lv_at hl 0 rfl) ?_
  refine lv_iconst (v := 0) hx hb dX12_sense_1 (by decide) ?_
  refine va_put (D := G) (ci := 12) (v := .int 0) (ty := tyX12 0) (C := RX12) (T := TX12) (N := 38) hx hb hts (mm_i inlX12) tyX12 tyX12_ok nmX12 hown hK.1 hP hD hS 0 rfl rfl 0 (by decide) (mm_h hts mm_w177) (fun _ h9 => h9) rfl (tyX12_ok 0 (by decide)) rfl rfl (Nat.le_of_ble_eq_true rfl) dX12_sense_2 ?_
  clear hP hD hS
  clear H locs
  intro H locs (hP : va_P G vwCl [(a_0, .inr (12, [.int 0, .ref a_1, .ref a_2, .ref a_3, .ref a_4, .ref a_5, .int i_3, .int i_4, .int i_5, .int i_6, .int i_7, .long j_0, .int i_8, .int i_9, .int i_10, .int i_11, .ref a_6, .ref a_7, .ref a_8, .ref a_9, .ref a_10, .ref a_11, .ref a_12, .ref a_13, .ref a_14, .ref a_15, .ref a_16, .ref a_17, .ref a_18, .int i_12, .int i_13, .int i_14, .int i_15, .int i_16, .int i_17, .ref a_19, .int i_18, .ref a_20])), (a_7, .inl (cy 1, 30, .inl (mm_g [i_19, i_20, i_21, i_22, i_23, i_24, i_25, i_26, i_27, i_28, i_29, i_30, i_31, i_32, i_33, i_34, i_35, i_36, i_37, i_38, i_39, i_40, i_41, i_42, i_43, i_44, i_45, i_46, i_47, i_48]))), (a_8, .inl (cy 1, 90, .inl f_0))] H) (hD : va_D A [(a_0, .inr (12, [.int 0, .ref a_1, .ref a_2, .ref a_3, .ref a_4, .ref a_5, .int i_3, .int i_4, .int i_5, .int i_6, .int i_7, .long j_0, .int i_8, .int i_9, .int i_10, .int i_11, .ref a_6, .ref a_7, .ref a_8, .ref a_9, .ref a_10, .ref a_11, .ref a_12, .ref a_13, .ref a_14, .ref a_15, .ref a_16, .ref a_17, .ref a_18, .int i_12, .int i_13, .int i_14, .int i_15, .int i_16, .int i_17, .ref a_19, .int i_18, .ref a_20])), (a_7, .inl (cy 1, 30, .inl (mm_g [i_19, i_20, i_21, i_22, i_23, i_24, i_25, i_26, i_27, i_28, i_29, i_30, i_31, i_32, i_33, i_34, i_35, i_36, i_37, i_38, i_39, i_40, i_41, i_42, i_43, i_44, i_45, i_46, i_47, i_48]))), (a_8, .inl (cy 1, 90, .inl f_0))]) hS
  refine lv_iload_n hx hb dX12_sense_5 rfl (lv_at hl 1 rfl) ?_
  obtain ⟨v1, ev1⟩ : ∃ y : Int64, y = i_0.toInt64 := ⟨_, rfl⟩
  refine lv_i2l hx hb dX12_sense_6 ev1.symm ?_
  have rv1 : mm_rl v1 (-2147483648) 2147483647 := mm_i2l ev1 (mm_top i_0)
  refine lv_lconst (v := 0) hx hb dX12_sense_7 (by decide) ?_
  refine lv_aload_n hx hb dX12_sense_8 rfl (lv_at hl 0 rfl) ?_
  refine mm_finir (va_runV (As := []) (rest := [.long 0, .long v1]) ⟨hx, hb, hml, hown, hts⟩ (M92_X12_senses l G cy H.size a_0 0 a_1 a_2 a_3 a_4 a_5 i_3 i_4 i_5 i_6 i_7 j_0 i_8 i_9 i_10 i_11 a_6 a_7 a_8 a_9 a_10 a_11 a_12 a_13 a_14 a_15 a_16 a_17 a_18 i_12 i_13 i_14 i_15 i_16 i_17 a_19 i_18 a_20 i_19 i_20 i_21 i_22 i_23 i_24 i_25 i_26 i_27 i_28 i_29 i_30 i_31 i_32 i_33 i_34 i_35 i_36 i_37 i_38 i_39 i_40 i_41 i_42 i_43 i_44 i_45 i_46 i_47 i_48 h0 h1 h2 h3 h4 h5 h6 h7 h8 h9 h10 h11 h12 h13 h14 h15 h16 h17 h18 h19 h20 h21 h22 h23 h24 h25 h26 h27 h28 h29) (cwV 0 hts (mm_gV mm_w588 mm_w589 mm_w590 mm_w5 mm_w591) rfl rfl rfl hd_X12_senses ⟨by rw [hRf]; exact Nat.le_of_ble_eq_true rfl, by rw [hRl]; exact Nat.le_of_ble_eq_true rfl⟩) (mm_preV hK hZ hS hA hP hD [0, 1] rfl rfl 0 rfl rfl rfl) rfl rfl hl.1 rfl (lv_room (Nat.le_of_ble_eq_true rfl)) dX12_sense_9 ⟨by rw [hRc]; exact Nat.le_of_ble_eq_true rfl, by rw [hRs]; exact Nat.le_of_ble_eq_true rfl⟩) hP hD hS hA [0, 1] rfl (fun _ => rfl) ?_
  clear hP hD hS
  clear H locs
  intro v2 _u H locs hw hP hD hS
  subst hw
  obtain ⟨v3, ev3⟩ : ∃ y : Int64, y = i_21.toInt64 := ⟨_, rfl⟩
  refine lv_i2l hx hb dX12_sense_12 ev3.symm ?_
  have rv3 : mm_rl v3 0 9 := mm_i2l ev3 h2
  refine lv_lconst (v := 1) hx hb dX12_sense_13 (by decide) ?_
  refine lv_lsub hx hb dX12_sense_14 ?_
  refine lv_topl (fun v4 ev4 => ?_)
  have rv4 : mm_rl v4 (-1) 8 := mm_subl ev4 rv3 mm_kl1 (by decide) (by decide)
  have tv4 := mm_sublEc ev4 rv3 mm_kl1 (by decide) (k := 1) (by decide)
  refine mm_finir (va_runS (As := [.long v1, .long 0, .long v4]) (rest := []) ⟨hx, hb, hml, hown, hts⟩ (M7_X12_in l G cy H.size v1 v4 ) (va_cwS 3 hts (mm_gS mm_w191 mm_w192 mm_w5 mm_w193) rfl rfl rfl hs_X12_in ⟨by rw [hRf]; exact Nat.le_of_ble_eq_true rfl, by rw [hRl]; exact Nat.le_of_ble_eq_true rfl⟩) (mm_preS hK hZ hS hA hP hD [] rfl rfl) rfl rfl hl.1 rfl (lv_room (Nat.le_of_ble_eq_true rfl)) dX12_sense_15 ⟨by rw [hRc]; exact Nat.le_of_ble_eq_true rfl, by rw [hRs]; exact Nat.le_of_ble_eq_true rfl⟩) hP hD hS hA [] rfl (fun _ => rfl) ?_
  clear hP hD hS
  clear H locs
  intro v5 _u H locs hw hP hD hS
  rcases hw with ⟨rfl, w6⟩ | ⟨rfl, w7, w8, w9, w10⟩
  · refine lv_if_eq (tgt := 41) hx hb dX12_sense_18 (by decide) (fun c11 => ?_) (fun c11 => ?_)
    · refine lv_bipush (v := (-2)) hx hb dX12_sense_41 (by decide) ?_
      subst hAe
      rw [hQ]
      exact W.iret (v := (-2)) hx hb hr (fun t ht hW => ⟨⟨(-2), (), rfl, (mm_wk mm_km2 (by decide)), by rw [ht]; exact hP, hK.warm hW, hD⟩, hS.F ht⟩) hS.2.2 dX12_sense_43
    · have q12 := mm_neL (lo := 1) (mm_ne c11) mm_k0 mm_k0 (by decide) (by decide)
      exact mm_no q12 (by decide)
  · have q13 := mm_meetl (lo := 0) (hi := 2147483647) w7 rv1 (by decide)
    have q14 := mm_meet (lo := 0) (hi := 2147483647) (mm_l2x ev1 q13) (mm_top i_0) (by decide)
    have q15 := mm_meetl (lo := 0) (hi := 8) w8 rv4 (by decide)
    have q16 := mm_leLl w9 q13 q15
    have q17 := mm_meet (lo := 0) (hi := 8) (mm_l2x ev1 q16) q14 (by decide)
    have w18 : (i_0 : Int32).toInt < (i_21 : Int32).toInt := by have := (mm_i2lE ev1); have := (mm_i2lE ev3); have := tv4; have := w9; omega
    have q19 := mm_ltR (lo := 1) w18 q17 h2 (by decide)
    refine lv_if_eq (tgt := 41) hx hb dX12_sense_18 (by decide) (fun c20 => ?_) (fun c20 => ?_)
    · exact mm_eqN c20.symm mm_k0 mm_k1 (by decide)
    · refine lv_iload_n hx hb dX12_sense_21 rfl (lv_at hl 2 rfl) ?_
      refine mm_finir (va_runS (As := [.int i_1]) (rest := []) ⟨hx, hb, hml, hown, hts⟩ (M93_X12_isHalf l G cy H.size i_1 ) (va_cwS 1 hts (mm_gS mm_w592 mm_w593 mm_w5 mm_w594) rfl rfl rfl hs_X12_isHalf ⟨by rw [hRf]; exact Nat.le_of_ble_eq_true rfl, by rw [hRl]; exact Nat.le_of_ble_eq_true rfl⟩) (mm_preS hK hZ hS hA hP hD [] rfl rfl) rfl rfl hl.1 rfl (lv_room (Nat.le_of_ble_eq_true rfl)) dX12_sense_22 ⟨by rw [hRc]; exact Nat.le_of_ble_eq_true rfl, by rw [hRs]; exact Nat.le_of_ble_eq_true rfl⟩) hP hD hS hA [] rfl (fun _ => rfl) ?_
      clear hP hD hS
      clear H locs
      intro v21 _u H locs hw hP hD hS
      rcases hw with rfl | ⟨rfl, w22⟩
      · refine lv_if_eq (tgt := 41) hx hb dX12_sense_25 (by decide) (fun c23 => ?_) (fun c23 => ?_)
        · refine lv_bipush (v := (-2)) hx hb dX12_sense_41 (by decide) ?_
          subst hAe
          rw [hQ]
          exact W.iret (v := (-2)) hx hb hr (fun t ht hW => ⟨⟨(-2), (), rfl, (mm_wk mm_km2 (by decide)), by rw [ht]; exact hP, hK.warm hW, hD⟩, hS.F ht⟩) hS.2.2 dX12_sense_43
        · have q24 := mm_neL (lo := 1) (mm_ne c23) mm_k0 mm_k0 (by decide) (by decide)
          exact mm_no q24 (by decide)
      · refine lv_if_eq (tgt := 41) hx hb dX12_sense_25 (by decide) (fun c25 => ?_) (fun c25 => ?_)
        · exact mm_eqN c25.symm mm_k0 mm_k1 (by decide)
        · refine lv_aload_n hx hb dX12_sense_28 rfl (lv_at hl 0 rfl) ?_
          refine va_get (D := G) (ci := 12) (v := .ref a_8) (C := RX12) (T := TX12) (N := 38) hx hb hts (mm_i inlX12) hown hK.1 hP 0 rfl rfl 18 (by decide) (mm_h hts mm_w150) (fun _ h9 => h9) rfl dX12_sense_29 ?_
          refine lv_iconst (v := 2) hx hb dX12_sense_32 (by decide) ?_
          refine lv_iload_n hx hb dX12_sense_33 rfl (lv_at hl 1 rfl) ?_
          refine lv_imul hx hb dX12_sense_34 ?_
          refine lv_topi (fun v26 ev26 => ?_)
          have rv26 : mm_rg v26 0 16 := mm_mul ev26 mm_k2 q17 (by decide) (by decide)
          have tv26 := mm_mulEc ev26 mm_k2 q17 (by decide) (k := 2) (by decide)
          refine lv_iload_n hx hb dX12_sense_35 rfl (lv_at hl 2 rfl) ?_
          refine lv_iadd hx hb dX12_sense_36 ?_
          refine lv_topi (fun v27 ev27 => ?_)
          have rv27 : mm_rg v27 0 17 := mm_add ev27 rv26 w22 (by decide) (by decide)
          have tv27 := mm_addE ev27 rv26 w22 (by decide)
          refine va_iald hx hb hK.1 hP 2 1 rfl rfl (mm_in rv27 (by decide)) dX12_sense_37 ?_
          refine lv_topi (fun v28 ev28 => ?_)
          have rv28 : mm_rg v28 0 99 := mm_eqv ev28 (h30 _)
          refine lv_goto (tgt := 43) hx hb dX12_sense_38 (by decide) ?_
          subst hAe
          rw [hQ]
          exact W.iret (v := v28) hx hb hr (fun t ht hW => ⟨⟨v28, (), rfl, (mm_wk rv28 (by decide)), by rw [ht]; exact hP, hK.warm hW, hD⟩, hS.F ht⟩) hS.2.2 dX12_sense_43

set_option maxHeartbeats 4000000 in
set_option maxRecDepth 100000 in
theorem M95_X12_texts (l : Launch) (G : va_G) (cy : Nat → ClassId) (sz : Nat) (a_0 : Nat) (i_0 : Int32) (a_1 : Nat) (a_2 : Nat) (a_3 : Nat) (a_4 : Nat) (a_5 : Nat) (i_1 : Int32) (i_2 : Int32) (i_3 : Int32) (i_4 : Int32) (i_5 : Int32) (j_0 : Int64) (i_6 : Int32) (i_7 : Int32) (i_8 : Int32) (i_9 : Int32) (a_6 : Nat) (a_7 : Nat) (a_8 : Nat) (a_9 : Nat) (a_10 : Nat) (a_11 : Nat) (a_12 : Nat) (a_13 : Nat) (a_14 : Nat) (a_15 : Nat) (a_16 : Nat) (a_17 : Nat) (a_18 : Nat) (i_10 : Int32) (i_11 : Int32) (i_12 : Int32) (i_13 : Int32) (i_14 : Int32) (i_15 : Int32) (a_19 : Nat) (i_16 : Int32) (a_20 : Nat) (i_17 : Int32) (i_18 : Int32) (i_19 : Int32) (i_20 : Int32) (i_21 : Int32) (i_22 : Int32) (i_23 : Int32) (i_24 : Int32) (i_25 : Int32) (i_26 : Int32) (i_27 : Int32) (i_28 : Int32) (i_29 : Int32) (i_30 : Int32) (i_31 : Int32) (i_32 : Int32) (i_33 : Int32) (i_34 : Int32) (i_35 : Int32) (i_36 : Int32) (i_37 : Int32) (i_38 : Int32) (i_39 : Int32) (i_40 : Int32) (i_41 : Int32) (i_42 : Int32) (i_43 : Int32) (i_44 : Int32) (i_45 : Int32) (i_46 : Int32) (h0 : mm_rg i_17 0 10) (h1 : mm_rg i_18 0 99) (h2 : mm_rg i_19 0 9) (h3 : mm_rg i_20 0 3) (h4 : mm_rg i_21 0 6) (h5 : mm_rg i_22 0 30) (h6 : mm_rg i_23 0 10) (h7 : mm_rg i_24 0 99) (h8 : mm_rg i_25 0 9) (h9 : mm_rg i_26 0 3) (h10 : mm_rg i_27 0 6) (h11 : mm_rg i_28 0 30) (h12 : mm_rg i_29 0 10) (h13 : mm_rg i_30 0 99) (h14 : mm_rg i_31 0 9) (h15 : mm_rg i_32 0 3) (h16 : mm_rg i_33 0 6) (h17 : mm_rg i_34 0 30) (h18 : mm_rg i_35 0 10) (h19 : mm_rg i_36 0 99) (h20 : mm_rg i_37 0 9) (h21 : mm_rg i_38 0 3) (h22 : mm_rg i_39 0 6) (h23 : mm_rg i_40 0 30) (h24 : mm_rg i_41 0 10) (h25 : mm_rg i_42 0 99) (h26 : mm_rg i_43 0 9) (h27 : mm_rg i_44 0 3) (h28 : mm_rg i_45 0 6) (h29 : mm_rg i_46 0 30)  : mm_CI l yX12_texts (mm_ws yX12_texts cX12_texts 1 (some .int)) ({ frames := 0, cells := 0, slots := 0, locals := 0 } : Room) G cy sz [(a_0, .inr (12, [.int i_0, .ref a_1, .ref a_2, .ref a_3, .ref a_4, .ref a_5, .int i_1, .int i_2, .int i_3, .int i_4, .int i_5, .long j_0, .int i_6, .int i_7, .int i_8, .int i_9, .ref a_6, .ref a_7, .ref a_8, .ref a_9, .ref a_10, .ref a_11, .ref a_12, .ref a_13, .ref a_14, .ref a_15, .ref a_16, .ref a_17, .ref a_18, .int i_10, .int i_11, .int i_12, .int i_13, .int i_14, .int i_15, .ref a_19, .int i_16, .ref a_20])), (a_7, .inl (cy 1, 30, .inl (mm_g [i_17, i_18, i_19, i_20, i_21, i_22, i_23, i_24, i_25, i_26, i_27, i_28, i_29, i_30, i_31, i_32, i_33, i_34, i_35, i_36, i_37, i_38, i_39, i_40, i_41, i_42, i_43, i_44, i_45, i_46])))] [.ref a_0] (fun u : Unit => [(a_0, .inr (12, [.int i_0, .ref a_1, .ref a_2, .ref a_3, .ref a_4, .ref a_5, .int i_1, .int i_2, .int i_3, .int i_4, .int i_5, .long j_0, .int i_6, .int i_7, .int i_8, .int i_9, .ref a_6, .ref a_7, .ref a_8, .ref a_9, .ref a_10, .ref a_11, .ref a_12, .ref a_13, .ref a_14, .ref a_15, .ref a_16, .ref a_17, .ref a_18, .int i_10, .int i_11, .int i_12, .int i_13, .int i_14, .int i_15, .ref a_19, .int i_16, .ref a_20])), (a_7, .inl (cy 1, 30, .inl (mm_g [i_17, i_18, i_19, i_20, i_21, i_22, i_23, i_24, i_25, i_26, i_27, i_28, i_29, i_30, i_31, i_32, i_33, i_34, i_35, i_36, i_37, i_38, i_39, i_40, i_41, i_42, i_43, i_44, i_45, i_46])))]) (fun (r : Int32) (u : Unit) => i_21 = r) 0 0 := by
  refine mm_begin (lv := [(0, .ref a_0)]) (by decide) (Nat.le_of_ble_eq_true rfl) rfl ?_
  intro p e s m below meth c A ls R args Q H locs hRe hQ hAe hx hb hr hlocks hml hown hnm hts hsz hA hS hP hK hD hZ hl
  have hRf : R.frames = 0 := by rw [hRe]
  have hRl : R.locals = 0 := by rw [hRe]
  have hRc : R.cells = 0 := by rw [hRe]
  have hRs : R.slots = 0 := by rw [hRe]
  refine lv_aload_n hx hb dX12_texts_0 rfl (lv_at hl 0 rfl) ?_
  refine va_get (D := G) (ci := 12) (v := .ref a_7) (C := RX12) (T := TX12) (N := 38) hx hb hts (mm_i inlX12) hown hK.1 hP 0 rfl rfl 17 (by decide) (mm_h hts mm_w149) (fun _ h9 => h9) rfl dX12_texts_1 ?_
  refine lv_iconst (v := 4) hx hb dX12_texts_4 (by decide) ?_
  refine va_iald hx hb hK.1 hP 1 1 rfl rfl (mm_in mm_k4 (by decide)) dX12_texts_5 ?_
  refine W.eq (g2 := F0 m 6 ls [.int i_21]) rfl ?_
  subst hAe
  rw [hQ]
  exact W.iret (v := i_21) hx hb hr (fun t ht hW => ⟨⟨i_21, (), rfl, rfl, by rw [ht]; exact hP, hK.warm hW, hD⟩, hS.F ht⟩) hS.2.2 dX12_texts_6

set_option maxHeartbeats 4000000 in
set_option maxRecDepth 100000 in
theorem M96_X12_isText (l : Launch) (G : va_G) (cy : Nat → ClassId) (sz : Nat) (a_0 : Nat) (j_0 : Int64) (i_0 : Int32) (a_1 : Nat) (a_2 : Nat) (a_3 : Nat) (a_4 : Nat) (a_5 : Nat) (i_1 : Int32) (i_2 : Int32) (i_3 : Int32) (i_4 : Int32) (i_5 : Int32) (j_1 : Int64) (i_6 : Int32) (i_7 : Int32) (i_8 : Int32) (i_9 : Int32) (a_6 : Nat) (a_7 : Nat) (a_8 : Nat) (a_9 : Nat) (a_10 : Nat) (a_11 : Nat) (a_12 : Nat) (a_13 : Nat) (a_14 : Nat) (a_15 : Nat) (a_16 : Nat) (a_17 : Nat) (a_18 : Nat) (i_10 : Int32) (i_11 : Int32) (i_12 : Int32) (i_13 : Int32) (i_14 : Int32) (i_15 : Int32) (a_19 : Nat) (i_16 : Int32) (a_20 : Nat) (i_17 : Int32) (i_18 : Int32) (i_19 : Int32) (i_20 : Int32) (i_21 : Int32) (i_22 : Int32) (i_23 : Int32) (i_24 : Int32) (i_25 : Int32) (i_26 : Int32) (i_27 : Int32) (i_28 : Int32) (i_29 : Int32) (i_30 : Int32) (i_31 : Int32) (i_32 : Int32) (i_33 : Int32) (i_34 : Int32) (i_35 : Int32) (i_36 : Int32) (i_37 : Int32) (i_38 : Int32) (i_39 : Int32) (i_40 : Int32) (i_41 : Int32) (i_42 : Int32) (i_43 : Int32) (i_44 : Int32) (i_45 : Int32) (i_46 : Int32) (h0 : mm_rg i_17 0 10) (h1 : mm_rg i_18 0 99) (h2 : mm_rg i_19 0 9) (h3 : mm_rg i_20 0 3) (h4 : mm_rg i_21 0 6) (h5 : mm_rg i_22 0 30) (h6 : mm_rg i_23 0 10) (h7 : mm_rg i_24 0 99) (h8 : mm_rg i_25 0 9) (h9 : mm_rg i_26 0 3) (h10 : mm_rg i_27 0 6) (h11 : mm_rg i_28 0 30) (h12 : mm_rg i_29 0 10) (h13 : mm_rg i_30 0 99) (h14 : mm_rg i_31 0 9) (h15 : mm_rg i_32 0 3) (h16 : mm_rg i_33 0 6) (h17 : mm_rg i_34 0 30) (h18 : mm_rg i_35 0 10) (h19 : mm_rg i_36 0 99) (h20 : mm_rg i_37 0 9) (h21 : mm_rg i_38 0 3) (h22 : mm_rg i_39 0 6) (h23 : mm_rg i_40 0 30) (h24 : mm_rg i_41 0 10) (h25 : mm_rg i_42 0 99) (h26 : mm_rg i_43 0 9) (h27 : mm_rg i_44 0 3) (h28 : mm_rg i_45 0 6) (h29 : mm_rg i_46 0 30)  : mm_CI l yX12_isText (mm_ws yX12_isText cX12_isText 3 (some .boolean)) ({ frames := 1, cells := 0, slots := 0, locals := 25 } : Room) G cy sz [(a_0, .inr (12, [.int i_0, .ref a_1, .ref a_2, .ref a_3, .ref a_4, .ref a_5, .int i_1, .int i_2, .int i_3, .int i_4, .int i_5, .long j_1, .int i_6, .int i_7, .int i_8, .int i_9, .ref a_6, .ref a_7, .ref a_8, .ref a_9, .ref a_10, .ref a_11, .ref a_12, .ref a_13, .ref a_14, .ref a_15, .ref a_16, .ref a_17, .ref a_18, .int i_10, .int i_11, .int i_12, .int i_13, .int i_14, .int i_15, .ref a_19, .int i_16, .ref a_20])), (a_7, .inl (cy 1, 30, .inl (mm_g [i_17, i_18, i_19, i_20, i_21, i_22, i_23, i_24, i_25, i_26, i_27, i_28, i_29, i_30, i_31, i_32, i_33, i_34, i_35, i_36, i_37, i_38, i_39, i_40, i_41, i_42, i_43, i_44, i_45, i_46])))] [.ref a_0, .long j_0] (fun u : Unit => [(a_0, .inr (12, [.int i_0, .ref a_1, .ref a_2, .ref a_3, .ref a_4, .ref a_5, .int i_1, .int i_2, .int i_3, .int i_4, .int i_5, .long j_1, .int i_6, .int i_7, .int i_8, .int i_9, .ref a_6, .ref a_7, .ref a_8, .ref a_9, .ref a_10, .ref a_11, .ref a_12, .ref a_13, .ref a_14, .ref a_15, .ref a_16, .ref a_17, .ref a_18, .int i_10, .int i_11, .int i_12, .int i_13, .int i_14, .int i_15, .ref a_19, .int i_16, .ref a_20])), (a_7, .inl (cy 1, 30, .inl (mm_g [i_17, i_18, i_19, i_20, i_21, i_22, i_23, i_24, i_25, i_26, i_27, i_28, i_29, i_30, i_31, i_32, i_33, i_34, i_35, i_36, i_37, i_38, i_39, i_40, i_41, i_42, i_43, i_44, i_45, i_46])))]) (fun (r : Int32) (u : Unit) => ((0 = r) ∨ (1 = r ∧ mm_rl j_0 0 5))) 0 0 := by
  refine mm_begin (lv := [(0, .ref a_0), (1, .long j_0)]) (by decide) (Nat.le_of_ble_eq_true rfl) rfl ?_
  intro p e s m below meth c A ls R args Q H locs hRe hQ hAe hx hb hr hlocks hml hown hnm hts hsz hA hS hP hK hD hZ hl
  have hRf : R.frames = 1 := by rw [hRe]
  have hRl : R.locals = 25 := by rw [hRe]
  have hRc : R.cells = 0 := by rw [hRe]
  have hRs : R.slots = 0 := by rw [hRe]
  refine lv_lload_n hx hb dX12_isText_0 rfl (lv_at hl 1 rfl) ?_
  refine lv_lconst (v := 0) hx hb dX12_isText_1 (by decide) ?_
  refine lv_aload_n hx hb dX12_isText_2 rfl (lv_at hl 0 rfl) ?_
  refine mm_finir (va_runV (As := []) (rest := [.long 0, .long j_0]) ⟨hx, hb, hml, hown, hts⟩ (M95_X12_texts l G cy H.size a_0 i_0 a_1 a_2 a_3 a_4 a_5 i_1 i_2 i_3 i_4 i_5 j_1 i_6 i_7 i_8 i_9 a_6 a_7 a_8 a_9 a_10 a_11 a_12 a_13 a_14 a_15 a_16 a_17 a_18 i_10 i_11 i_12 i_13 i_14 i_15 a_19 i_16 a_20 i_17 i_18 i_19 i_20 i_21 i_22 i_23 i_24 i_25 i_26 i_27 i_28 i_29 i_30 i_31 i_32 i_33 i_34 i_35 i_36 i_37 i_38 i_39 i_40 i_41 i_42 i_43 i_44 i_45 i_46 h0 h1 h2 h3 h4 h5 h6 h7 h8 h9 h10 h11 h12 h13 h14 h15 h16 h17 h18 h19 h20 h21 h22 h23 h24 h25 h26 h27 h28 h29) (cwV 0 hts (mm_gV mm_w617 mm_w618 mm_w619 mm_w5 mm_w620) rfl rfl rfl hd_X12_texts ⟨by rw [hRf]; exact Nat.le_of_ble_eq_true rfl, by rw [hRl]; exact Nat.le_of_ble_eq_true rfl⟩) (mm_preV hK hZ hS hA hP hD [0, 1] rfl rfl 0 rfl rfl rfl) rfl rfl hl.1 rfl (lv_room (Nat.le_of_ble_eq_true rfl)) dX12_isText_3 ⟨by rw [hRc]; exact Nat.le_of_ble_eq_true rfl, by rw [hRs]; exact Nat.le_of_ble_eq_true rfl⟩) hP hD hS hA [0, 1] rfl (fun _ => rfl) ?_
  clear hP hD hS
  clear H locs
  intro v1 _u H locs hw hP hD hS
  subst hw
  obtain ⟨v2, ev2⟩ : ∃ y : Int64, y = i_21.toInt64 := ⟨_, rfl⟩
  refine lv_i2l hx hb dX12_isText_6 ev2.symm ?_
  have rv2 : mm_rl v2 0 6 := mm_i2l ev2 h4
  refine lv_lconst (v := 1) hx hb dX12_isText_7 (by decide) ?_
  refine lv_lsub hx hb dX12_isText_8 ?_
  refine lv_topl (fun v3 ev3 => ?_)
  have rv3 : mm_rl v3 (-1) 5 := mm_subl ev3 rv2 mm_kl1 (by decide) (by decide)
  have tv3 := mm_sublEc ev3 rv2 mm_kl1 (by decide) (k := 1) (by decide)
  refine mm_finir (va_runS (As := [.long j_0, .long 0, .long v3]) (rest := []) ⟨hx, hb, hml, hown, hts⟩ (M7_X12_in l G cy H.size j_0 v3 ) (va_cwS 3 hts (mm_gS mm_w191 mm_w192 mm_w5 mm_w193) rfl rfl rfl hs_X12_in ⟨by rw [hRf]; exact Nat.le_of_ble_eq_true rfl, by rw [hRl]; exact Nat.le_of_ble_eq_true rfl⟩) (mm_preS hK hZ hS hA hP hD [] rfl rfl) rfl rfl hl.1 rfl (lv_room (Nat.le_of_ble_eq_true rfl)) dX12_isText_9 ⟨by rw [hRc]; exact Nat.le_of_ble_eq_true rfl, by rw [hRs]; exact Nat.le_of_ble_eq_true rfl⟩) hP hD hS hA [] rfl (fun _ => rfl) ?_
  clear hP hD hS
  clear H locs
  intro v4 _u H locs hw hP hD hS
  rcases hw with ⟨rfl, w5⟩ | ⟨rfl, w6, w7, w8, w9⟩
  · subst hAe
    rw [hQ]
    exact W.zret (v := 0) hx hb hr rfl (fun t ht hW => ⟨⟨0, (), rfl, (Or.inl rfl), by rw [ht]; exact hP, hK.warm hW, hD⟩, hS.F ht⟩) hS.2.2 dX12_isText_12
  · have q10 := mm_meetl (lo := 0) (hi := 5) w7 rv3 (by decide)
    have q11 := mm_leLl w8 w6 q10
    subst hAe
    rw [hQ]
    exact W.zret (v := 1) hx hb hr rfl (fun t ht hW => ⟨⟨1, (), rfl, (Or.inr ⟨rfl, q11⟩), by rw [ht]; exact hP, hK.warm hW, hD⟩, hS.F ht⟩) hS.2.2 dX12_isText_12

set_option maxHeartbeats 4000000 in
set_option maxRecDepth 100000 in
theorem M97_X12_word (l : Launch) (G : va_G) (cy : Nat → ClassId) (sz : Nat) (a_0 : Nat) (i_0 : Int32) (i_1 : Int32) (i_2 : Int32) (a_1 : Nat) (a_2 : Nat) (a_3 : Nat) (a_4 : Nat) (a_5 : Nat) (i_3 : Int32) (i_4 : Int32) (i_5 : Int32) (i_6 : Int32) (i_7 : Int32) (j_0 : Int64) (i_8 : Int32) (i_9 : Int32) (i_10 : Int32) (i_11 : Int32) (a_6 : Nat) (a_7 : Nat) (a_8 : Nat) (a_9 : Nat) (a_10 : Nat) (a_11 : Nat) (a_12 : Nat) (a_13 : Nat) (a_14 : Nat) (a_15 : Nat) (a_16 : Nat) (a_17 : Nat) (a_18 : Nat) (i_12 : Int32) (i_13 : Int32) (i_14 : Int32) (i_15 : Int32) (i_16 : Int32) (i_17 : Int32) (a_19 : Nat) (i_18 : Int32) (a_20 : Nat) (i_19 : Int32) (i_20 : Int32) (i_21 : Int32) (i_22 : Int32) (i_23 : Int32) (i_24 : Int32) (i_25 : Int32) (i_26 : Int32) (i_27 : Int32) (i_28 : Int32) (i_29 : Int32) (i_30 : Int32) (i_31 : Int32) (i_32 : Int32) (i_33 : Int32) (i_34 : Int32) (i_35 : Int32) (i_36 : Int32) (i_37 : Int32) (i_38 : Int32) (i_39 : Int32) (i_40 : Int32) (i_41 : Int32) (i_42 : Int32) (i_43 : Int32) (i_44 : Int32) (i_45 : Int32) (i_46 : Int32) (i_47 : Int32) (i_48 : Int32) (f_0 : Nat → Int32) (f_1 : Nat → Int32) (h0 : mm_rg i_19 0 10) (h1 : mm_rg i_20 0 99) (h2 : mm_rg i_21 0 9) (h3 : mm_rg i_22 0 3) (h4 : mm_rg i_23 0 6) (h5 : mm_rg i_24 0 30) (h6 : mm_rg i_25 0 10) (h7 : mm_rg i_26 0 99) (h8 : mm_rg i_27 0 9) (h9 : mm_rg i_28 0 3) (h10 : mm_rg i_29 0 6) (h11 : mm_rg i_30 0 30) (h12 : mm_rg i_31 0 10) (h13 : mm_rg i_32 0 99) (h14 : mm_rg i_33 0 9) (h15 : mm_rg i_34 0 3) (h16 : mm_rg i_35 0 6) (h17 : mm_rg i_36 0 30) (h18 : mm_rg i_37 0 10) (h19 : mm_rg i_38 0 99) (h20 : mm_rg i_39 0 9) (h21 : mm_rg i_40 0 3) (h22 : mm_rg i_41 0 6) (h23 : mm_rg i_42 0 30) (h24 : mm_rg i_43 0 10) (h25 : mm_rg i_44 0 99) (h26 : mm_rg i_45 0 9) (h27 : mm_rg i_46 0 3) (h28 : mm_rg i_47 0 6) (h29 : mm_rg i_48 0 30) (h30 : mm_ar f_0 0 8) (h31 : mm_ar f_1 0 9) (h32 : mm_txs f_0 f_1 0 i_21 i_23) (h33 : mm_txs f_0 f_1 1 i_27 i_29) (h34 : mm_txs f_0 f_1 2 i_33 i_35) (h35 : mm_txs f_0 f_1 3 i_39 i_41)  : mm_CI l yX12_word (mm_ws yX12_word cX12_word 3 (some .int)) ({ frames := 2, cells := 0, slots := 0, locals := 47 } : Room) G cy sz [(a_0, .inr (12, [.int i_2, .ref a_1, .ref a_2, .ref a_3, .ref a_4, .ref a_5, .int i_3, .int i_4, .int i_5, .int i_6, .int i_7, .long j_0, .int i_8, .int i_9, .int i_10, .int i_11, .ref a_6, .ref a_7, .ref a_8, .ref a_9, .ref a_10, .ref a_11, .ref a_12, .ref a_13, .ref a_14, .ref a_15, .ref a_16, .ref a_17, .ref a_18, .int i_12, .int i_13, .int i_14, .int i_15, .int i_16, .int i_17, .ref a_19, .int i_18, .ref a_20])), (a_7, .inl (cy 1, 30, .inl (mm_g [i_19, i_20, i_21, i_22, i_23, i_24, i_25, i_26, i_27, i_28, i_29, i_30, i_31, i_32, i_33, i_34, i_35, i_36, i_37, i_38, i_39, i_40, i_41, i_42, i_43, i_44, i_45, i_46, i_47, i_48]))), (a_11, .inl (cy 1, 30, .inl f_0)), (a_12, .inl (cy 1, 240, .inl f_1))] [.ref a_0, .int i_0, .int i_1] (fun u : Unit => [(a_0, .inr (12, [.int 0, .ref a_1, .ref a_2, .ref a_3, .ref a_4, .ref a_5, .int i_3, .int i_4, .int i_5, .int i_6, .int i_7, .long j_0, .int i_8, .int i_9, .int i_10, .int i_11, .ref a_6, .ref a_7, .ref a_8, .ref a_9, .ref a_10, .ref a_11, .ref a_12, .ref a_13, .ref a_14, .ref a_15, .ref a_16, .ref a_17, .ref a_18, .int i_12, .int i_13, .int i_14, .int i_15, .int i_16, .int i_17, .ref a_19, .int i_18, .ref a_20])), (a_7, .inl (cy 1, 30, .inl (mm_g [i_19, i_20, i_21, i_22, i_23, i_24, i_25, i_26, i_27, i_28, i_29, i_30, i_31, i_32, i_33, i_34, i_35, i_36, i_37, i_38, i_39, i_40, i_41, i_42, i_43, i_44, i_45, i_46, i_47, i_48]))), (a_11, .inl (cy 1, 30, .inl f_0)), (a_12, .inl (cy 1, 240, .inl f_1))]) (fun (r : Int32) (u : Unit) => mm_rg r (-2) 9) 0 0 := by
  refine mm_begin (lv := [(0, .ref a_0), (1, .int i_0), (2, .int i_1)]) (by decide) (Nat.le_of_ble_eq_true rfl) rfl ?_
  intro p e s m below meth c A ls R args Q H locs hRe hQ hAe hx hb hr hlocks hml hown hnm hts hsz hA hS hP hK hD hZ hl
  have hRf : R.frames = 2 := by rw [hRe]
  have hRl : R.locals = 47 := by rw [hRe]
  have hRc : R.cells = 0 := by rw [hRe]
  have hRs : R.slots = 0 := by rw [hRe]
  refine lv_aload_n hx hb dX12_word_0 rfl (lv_at hl 0 rfl) ?_
  refine lv_iconst (v := 0) hx hb dX12_word_1 (by decide) ?_
  refine va_put (D := G) (ci := 12) (v := .int 0) (ty := tyX12 0) (C := RX12) (T := TX12) (N := 38) hx hb hts (mm_i inlX12) tyX12 tyX12_ok nmX12 hown hK.1 hP hD hS 0 rfl rfl 0 (by decide) (mm_h hts mm_w177) (fun _ h9 => h9) rfl (tyX12_ok 0 (by decide)) rfl rfl (Nat.le_of_ble_eq_true rfl) dX12_word_2 ?_
  clear hP hD hS
  clear H locs
  intro H locs (hP : va_P G vwCl [(a_0, .inr (12, [.int 0, .ref a_1, .ref a_2, .ref a_3, .ref a_4, .ref a_5, .int i_3, .int i_4, .int i_5, .int i_6, .int i_7, .long j_0, .int i_8, .int i_9, .int i_10, .int i_11, .ref a_6, .ref a_7, .ref a_8, .ref a_9, .ref a_10, .ref a_11, .ref a_12, .ref a_13, .ref a_14, .ref a_15, .ref a_16, .ref a_17, .ref a_18, .int i_12, .int i_13, .int i_14, .int i_15, .int i_16, .int i_17, .ref a_19, .int i_18, .ref a_20])), (a_7, .inl (cy 1, 30, .inl (mm_g [i_19, i_20, i_21, i_22, i_23, i_24, i_25, i_26, i_27, i_28, i_29, i_30, i_31, i_32, i_33, i_34, i_35, i_36, i_37, i_38, i_39, i_40, i_41, i_42, i_43, i_44, i_45, i_46, i_47, i_48]))), (a_11, .inl (cy 1, 30, .inl f_0)), (a_12, .inl (cy 1, 240, .inl f_1))] H) (hD : va_D A [(a_0, .inr (12, [.int 0, .ref a_1, .ref a_2, .ref a_3, .ref a_4, .ref a_5, .int i_3, .int i_4, .int i_5, .int i_6, .int i_7, .long j_0, .int i_8, .int i_9, .int i_10, .int i_11, .ref a_6, .ref a_7, .ref a_8, .ref a_9, .ref a_10, .ref a_11, .ref a_12, .ref a_13, .ref a_14, .ref a_15, .ref a_16, .ref a_17, .ref a_18, .int i_12, .int i_13, .int i_14, .int i_15, .int i_16, .int i_17, .ref a_19, .int i_18, .ref a_20])), (a_7, .inl (cy 1, 30, .inl (mm_g [i_19, i_20, i_21, i_22, i_23, i_24, i_25, i_26, i_27, i_28, i_29, i_30, i_31, i_32, i_33, i_34, i_35, i_36, i_37, i_38, i_39, i_40, i_41, i_42, i_43, i_44, i_45, i_46, i_47, i_48]))), (a_11, .inl (cy 1, 30, .inl f_0)), (a_12, .inl (cy 1, 240, .inl f_1))]) hS
  refine lv_aload_n hx hb dX12_word_5 rfl (lv_at hl 0 rfl) ?_
  refine lv_iload_n hx hb dX12_word_6 rfl (lv_at hl 1 rfl) ?_
  obtain ⟨v1, ev1⟩ : ∃ y : Int64, y = i_0.toInt64 := ⟨_, rfl⟩
  refine lv_i2l hx hb dX12_word_7 ev1.symm ?_
  have rv1 : mm_rl v1 (-2147483648) 2147483647 := mm_i2l ev1 (mm_top i_0)
  refine mm_finir (va_runV (As := [.long v1]) (rest := []) ⟨hx, hb, hml, hown, hts⟩ (M96_X12_isText l G cy H.size a_0 v1 0 a_1 a_2 a_3 a_4 a_5 i_3 i_4 i_5 i_6 i_7 j_0 i_8 i_9 i_10 i_11 a_6 a_7 a_8 a_9 a_10 a_11 a_12 a_13 a_14 a_15 a_16 a_17 a_18 i_12 i_13 i_14 i_15 i_16 i_17 a_19 i_18 a_20 i_19 i_20 i_21 i_22 i_23 i_24 i_25 i_26 i_27 i_28 i_29 i_30 i_31 i_32 i_33 i_34 i_35 i_36 i_37 i_38 i_39 i_40 i_41 i_42 i_43 i_44 i_45 i_46 i_47 i_48 h0 h1 h2 h3 h4 h5 h6 h7 h8 h9 h10 h11 h12 h13 h14 h15 h16 h17 h18 h19 h20 h21 h22 h23 h24 h25 h26 h27 h28 h29) (cwV 1 hts (mm_gV mm_w613 mm_w614 mm_w615 mm_w5 mm_w616) rfl rfl rfl hd_X12_isText ⟨by rw [hRf]; exact Nat.le_of_ble_eq_true rfl, by rw [hRl]; exact Nat.le_of_ble_eq_true rfl⟩) (mm_preV hK hZ hS hA hP hD [0, 1] rfl rfl 0 rfl rfl rfl) rfl rfl hl.1 rfl (lv_room (Nat.le_of_ble_eq_true rfl)) dX12_word_8 ⟨by rw [hRc]; exact Nat.le_of_ble_eq_true rfl, by rw [hRs]; exact Nat.le_of_ble_eq_true rfl⟩) hP hD hS hA [0, 1] rfl (fun _ => rfl) ?_
  clear hP hD hS
  clear H locs
  intro v2 _u H locs hw hP hD hS
  rcases hw with rfl | ⟨rfl, w3⟩
  · refine lv_if_ne (tgt := 17) hx hb dX12_word_11 (by decide) (fun c4 => ?_) (fun c4 => ?_)
    · have q5 := mm_neL (lo := 1) (mm_ne c4) mm_k0 mm_k0 (by decide) (by decide)
      exact mm_no q5 (by decide)
    · refine lv_bipush (v := (-2)) hx hb dX12_word_14 (by decide) ?_
      subst hAe
      rw [hQ]
      exact W.iret (v := (-2)) hx hb hr (fun t ht hW => ⟨⟨(-2), (), rfl, (mm_wk mm_km2 (by decide)), by rw [ht]; exact hP, hK.warm hW, hD⟩, hS.F ht⟩) hS.2.2 dX12_word_16
  · have q6 := mm_meet (lo := 0) (hi := 5) (mm_l2x ev1 w3) (mm_top i_0) (by decide)
    refine lv_if_ne (tgt := 17) hx hb dX12_word_11 (by decide) (fun c7 => ?_) (fun c7 => ?_)
    · refine lv_iload_n hx hb dX12_word_17 rfl (lv_at hl 2 rfl) ?_
      obtain ⟨v8, ev8⟩ : ∃ y : Int64, y = i_1.toInt64 := ⟨_, rfl⟩
      refine lv_i2l hx hb dX12_word_18 ev8.symm ?_
      have rv8 : mm_rl v8 (-2147483648) 2147483647 := mm_i2l ev8 (mm_top i_1)
      refine lv_lconst (v := 0) hx hb dX12_word_19 (by decide) ?_
      refine lv_aload_n hx hb dX12_word_20 rfl (lv_at hl 0 rfl) ?_
      refine va_get (D := G) (ci := 12) (v := .ref a_11) (C := RX12) (T := TX12) (N := 38) hx hb hts (mm_i inlX12) hown hK.1 hP 0 rfl rfl 21 (by decide) (mm_h hts mm_w153) (fun _ h9 => h9) rfl dX12_word_21 ?_
      refine lv_iload_n hx hb dX12_word_24 rfl (lv_at hl 1 rfl) ?_
      refine va_iald hx hb hK.1 hP 2 1 rfl rfl (mm_in q6 (by decide)) dX12_word_25 ?_
      refine lv_topi (fun v9 ev9 => ?_)
      have rv9 : mm_rg v9 0 8 := mm_eqv ev9 (h30 _)
      obtain ⟨v10, ev10⟩ : ∃ y : Int64, y = v9.toInt64 := ⟨_, rfl⟩
      refine lv_i2l hx hb dX12_word_26 ev10.symm ?_
      have rv10 : mm_rl v10 0 8 := mm_i2l ev10 rv9
      refine lv_lconst (v := 1) hx hb dX12_word_27 (by decide) ?_
      refine lv_lsub hx hb dX12_word_28 ?_
      refine lv_topl (fun v11 ev11 => ?_)
      have rv11 : mm_rl v11 (-1) 7 := mm_subl ev11 rv10 mm_kl1 (by decide) (by decide)
      have tv11 := mm_sublEc ev11 rv10 mm_kl1 (by decide) (k := 1) (by decide)
      refine mm_finir (va_runS (As := [.long v8, .long 0, .long v11]) (rest := []) ⟨hx, hb, hml, hown, hts⟩ (M7_X12_in l G cy H.size v8 v11 ) (va_cwS 3 hts (mm_gS mm_w191 mm_w192 mm_w5 mm_w193) rfl rfl rfl hs_X12_in ⟨by rw [hRf]; exact Nat.le_of_ble_eq_true rfl, by rw [hRl]; exact Nat.le_of_ble_eq_true rfl⟩) (mm_preS hK hZ hS hA hP hD [] rfl rfl) rfl rfl hl.1 rfl (lv_room (Nat.le_of_ble_eq_true rfl)) dX12_word_29 ⟨by rw [hRc]; exact Nat.le_of_ble_eq_true rfl, by rw [hRs]; exact Nat.le_of_ble_eq_true rfl⟩) hP hD hS hA [] rfl (fun _ => rfl) ?_
      clear hP hD hS
      clear H locs
      intro v12 _u H locs hw hP hD hS
      rcases hw with ⟨rfl, w13⟩ | ⟨rfl, w14, w15, w16, w17⟩
      · refine lv_if_eq (tgt := 49) hx hb dX12_word_32 (by decide) (fun c18 => ?_) (fun c18 => ?_)
        · refine lv_iconst (v := (-1)) hx hb dX12_word_49 (by decide) ?_
          subst hAe
          rw [hQ]
          exact W.iret (v := (-1)) hx hb hr (fun t ht hW => ⟨⟨(-1), (), rfl, (mm_wk mm_km1 (by decide)), by rw [ht]; exact hP, hK.warm hW, hD⟩, hS.F ht⟩) hS.2.2 dX12_word_50
        · have q19 := mm_neL (lo := 1) (mm_ne c18) mm_k0 mm_k0 (by decide) (by decide)
          exact mm_no q19 (by decide)
      · have q20 := mm_meetl (lo := 0) (hi := 2147483647) w14 rv8 (by decide)
        have q21 := mm_meet (lo := 0) (hi := 2147483647) (mm_l2x ev8 q20) (mm_top i_1) (by decide)
        have q22 := mm_meetl (lo := 0) (hi := 7) w15 rv11 (by decide)
        have q23 := mm_leLl w16 q20 q22
        have q24 := mm_meet (lo := 0) (hi := 7) (mm_l2x ev8 q23) q21 (by decide)
        have w25 : (i_1 : Int32).toInt < (v9 : Int32).toInt := by have := (mm_i2lE ev8); have := (mm_i2lE ev10); have := tv11; have := w16; omega
        have q26 := mm_ltR (lo := 1) w25 q24 rv9 (by decide)
        refine lv_if_eq (tgt := 49) hx hb dX12_word_32 (by decide) (fun c27 => ?_) (fun c27 => ?_)
        · exact mm_eqN c27.symm mm_k0 mm_k1 (by decide)
        · refine lv_aload_n hx hb dX12_word_35 rfl (lv_at hl 0 rfl) ?_
          refine va_get (D := G) (ci := 12) (v := .ref a_12) (C := RX12) (T := TX12) (N := 38) hx hb hts (mm_i inlX12) hown hK.1 hP 0 rfl rfl 22 (by decide) (mm_h hts mm_w154) (fun _ h9 => h9) rfl dX12_word_36 ?_
          refine lv_bipush (v := 8) hx hb dX12_word_39 (by decide) ?_
          refine lv_iload_n hx hb dX12_word_41 rfl (lv_at hl 1 rfl) ?_
          refine lv_imul hx hb dX12_word_42 ?_
          refine lv_topi (fun v28 ev28 => ?_)
          have rv28 : mm_rg v28 0 40 := mm_mul ev28 mm_k8 q6 (by decide) (by decide)
          have tv28 := mm_mulEc ev28 mm_k8 q6 (by decide) (k := 8) (by decide)
          refine lv_iload_n hx hb dX12_word_43 rfl (lv_at hl 2 rfl) ?_
          refine lv_iadd hx hb dX12_word_44 ?_
          refine lv_topi (fun v29 ev29 => ?_)
          have rv29 : mm_rg v29 0 47 := mm_add ev29 rv28 q24 (by decide) (by decide)
          have tv29 := mm_addE ev29 rv28 q24 (by decide)
          refine va_iald hx hb hK.1 hP 3 1 rfl rfl (mm_in rv29 (by decide)) dX12_word_45 ?_
          refine lv_topi (fun v30 ev30 => ?_)
          have rv30 : mm_rg v30 0 9 := mm_eqv ev30 (h31 _)
          refine lv_goto (tgt := 50) hx hb dX12_word_46 (by decide) ?_
          subst hAe
          rw [hQ]
          exact W.iret (v := v30) hx hb hr (fun t ht hW => ⟨⟨v30, (), rfl, (mm_wk rv30 (by decide)), by rw [ht]; exact hP, hK.warm hW, hD⟩, hS.F ht⟩) hS.2.2 dX12_word_50
    · exact mm_eqN c7.symm mm_k0 mm_k1 (by decide)

set_option maxHeartbeats 4000000 in
set_option maxRecDepth 100000 in
theorem M98_X12_isLand (l : Launch) (G : va_G) (cy : Nat → ClassId) (sz : Nat) (a_0 : Nat) (i_0 : Int32) (i_1 : Int32) (a_1 : Nat) (a_2 : Nat) (a_3 : Nat) (a_4 : Nat) (a_5 : Nat) (i_2 : Int32) (i_3 : Int32) (i_4 : Int32) (i_5 : Int32) (i_6 : Int32) (j_0 : Int64) (i_7 : Int32) (i_8 : Int32) (i_9 : Int32) (i_10 : Int32) (a_6 : Nat) (a_7 : Nat) (a_8 : Nat) (a_9 : Nat) (a_10 : Nat) (a_11 : Nat) (a_12 : Nat) (a_13 : Nat) (a_14 : Nat) (a_15 : Nat) (a_16 : Nat) (a_17 : Nat) (a_18 : Nat) (i_11 : Int32) (i_12 : Int32) (i_13 : Int32) (i_14 : Int32) (i_15 : Int32) (i_16 : Int32) (a_19 : Nat) (i_17 : Int32) (a_20 : Nat) (i_18 : Int32) (i_19 : Int32) (i_20 : Int32) (i_21 : Int32) (i_22 : Int32) (i_23 : Int32) (i_24 : Int32) (i_25 : Int32) (i_26 : Int32) (i_27 : Int32) (i_28 : Int32) (i_29 : Int32) (i_30 : Int32) (i_31 : Int32) (i_32 : Int32) (i_33 : Int32) (i_34 : Int32) (i_35 : Int32) (i_36 : Int32) (i_37 : Int32) (i_38 : Int32) (i_39 : Int32) (i_40 : Int32) (i_41 : Int32) (i_42 : Int32) (i_43 : Int32) (i_44 : Int32) (i_45 : Int32) (i_46 : Int32) (i_47 : Int32) (h0 : mm_rg i_18 0 10) (h1 : mm_rg i_19 0 99) (h2 : mm_rg i_20 0 9) (h3 : mm_rg i_21 0 3) (h4 : mm_rg i_22 0 6) (h5 : mm_rg i_23 0 30) (h6 : mm_rg i_24 0 10) (h7 : mm_rg i_25 0 99) (h8 : mm_rg i_26 0 9) (h9 : mm_rg i_27 0 3) (h10 : mm_rg i_28 0 6) (h11 : mm_rg i_29 0 30) (h12 : mm_rg i_30 0 10) (h13 : mm_rg i_31 0 99) (h14 : mm_rg i_32 0 9) (h15 : mm_rg i_33 0 3) (h16 : mm_rg i_34 0 6) (h17 : mm_rg i_35 0 30) (h18 : mm_rg i_36 0 10) (h19 : mm_rg i_37 0 99) (h20 : mm_rg i_38 0 9) (h21 : mm_rg i_39 0 3) (h22 : mm_rg i_40 0 6) (h23 : mm_rg i_41 0 30) (h24 : mm_rg i_42 0 10) (h25 : mm_rg i_43 0 99) (h26 : mm_rg i_44 0 9) (h27 : mm_rg i_45 0 3) (h28 : mm_rg i_46 0 6) (h29 : mm_rg i_47 0 30)  : mm_CI l yX12_isLand (mm_ws yX12_isLand cX12_isLand 2 (some .boolean)) ({ frames := 1, cells := 0, slots := 0, locals := 25 } : Room) G cy sz [(a_0, .inr (12, [.int i_1, .ref a_1, .ref a_2, .ref a_3, .ref a_4, .ref a_5, .int i_2, .int i_3, .int i_4, .int i_5, .int i_6, .long j_0, .int i_7, .int i_8, .int i_9, .int i_10, .ref a_6, .ref a_7, .ref a_8, .ref a_9, .ref a_10, .ref a_11, .ref a_12, .ref a_13, .ref a_14, .ref a_15, .ref a_16, .ref a_17, .ref a_18, .int i_11, .int i_12, .int i_13, .int i_14, .int i_15, .int i_16, .ref a_19, .int i_17, .ref a_20])), (a_7, .inl (cy 1, 30, .inl (mm_g [i_18, i_19, i_20, i_21, i_22, i_23, i_24, i_25, i_26, i_27, i_28, i_29, i_30, i_31, i_32, i_33, i_34, i_35, i_36, i_37, i_38, i_39, i_40, i_41, i_42, i_43, i_44, i_45, i_46, i_47])))] [.ref a_0, .int i_0] (fun u : Unit => [(a_0, .inr (12, [.int i_1, .ref a_1, .ref a_2, .ref a_3, .ref a_4, .ref a_5, .int i_2, .int i_3, .int i_4, .int i_5, .int i_6, .long j_0, .int i_7, .int i_8, .int i_9, .int i_10, .ref a_6, .ref a_7, .ref a_8, .ref a_9, .ref a_10, .ref a_11, .ref a_12, .ref a_13, .ref a_14, .ref a_15, .ref a_16, .ref a_17, .ref a_18, .int i_11, .int i_12, .int i_13, .int i_14, .int i_15, .int i_16, .ref a_19, .int i_17, .ref a_20])), (a_7, .inl (cy 1, 30, .inl (mm_g [i_18, i_19, i_20, i_21, i_22, i_23, i_24, i_25, i_26, i_27, i_28, i_29, i_30, i_31, i_32, i_33, i_34, i_35, i_36, i_37, i_38, i_39, i_40, i_41, i_42, i_43, i_44, i_45, i_46, i_47])))]) (fun (r : Int32) (u : Unit) => ((0 = r) ∨ (1 = r ∧ mm_rg i_0 0 2 ∧ (i_0 : Int32).toInt < (i_21 : Int32).toInt))) 0 0 := by
  refine mm_begin (lv := [(0, .ref a_0), (1, .int i_0)]) (by decide) (Nat.le_of_ble_eq_true rfl) rfl ?_
  intro p e s m below meth c A ls R args Q H locs hRe hQ hAe hx hb hr hlocks hml hown hnm hts hsz hA hS hP hK hD hZ hl
  have hRf : R.frames = 1 := by rw [hRe]
  have hRl : R.locals = 25 := by rw [hRe]
  have hRc : R.cells = 0 := by rw [hRe]
  have hRs : R.slots = 0 := by rw [hRe]
  refine lv_iload_n hx hb dX12_isLand_0 rfl (lv_at hl 1 rfl) ?_
  obtain ⟨v1, ev1⟩ : ∃ y : Int64, y = i_0.toInt64 := ⟨_, rfl⟩
  refine lv_i2l hx hb dX12_isLand_1 ev1.symm ?_
  have rv1 : mm_rl v1 (-2147483648) 2147483647 := mm_i2l ev1 (mm_top i_0)
  refine lv_lconst (v := 0) hx hb dX12_isLand_2 (by decide) ?_
  refine lv_aload_n hx hb dX12_isLand_3 rfl (lv_at hl 0 rfl) ?_
  refine va_get (D := G) (ci := 12) (v := .ref a_7) (C := RX12) (T := TX12) (N := 38) hx hb hts (mm_i inlX12) hown hK.1 hP 0 rfl rfl 17 (by decide) (mm_h hts mm_w149) (fun _ h9 => h9) rfl dX12_isLand_4 ?_
  refine lv_iconst (v := 3) hx hb dX12_isLand_7 (by decide) ?_
  refine va_iald hx hb hK.1 hP 1 1 rfl rfl (mm_in mm_k3 (by decide)) dX12_isLand_8 ?_
  refine W.eq (g2 := F0 m 9 ls [.int i_21, .long 0, .long v1]) rfl ?_
  obtain ⟨v2, ev2⟩ : ∃ y : Int64, y = i_21.toInt64 := ⟨_, rfl⟩
  refine lv_i2l hx hb dX12_isLand_9 ev2.symm ?_
  have rv2 : mm_rl v2 0 3 := mm_i2l ev2 h3
  refine lv_lconst (v := 1) hx hb dX12_isLand_10 (by decide) ?_
  refine lv_lsub hx hb dX12_isLand_11 ?_
  refine lv_topl (fun v3 ev3 => ?_)
  have rv3 : mm_rl v3 (-1) 2 := mm_subl ev3 rv2 mm_kl1 (by decide) (by decide)
  have tv3 := mm_sublEc ev3 rv2 mm_kl1 (by decide) (k := 1) (by decide)
  refine mm_finir (va_runS (As := [.long v1, .long 0, .long v3]) (rest := []) ⟨hx, hb, hml, hown, hts⟩ (M7_X12_in l G cy H.size v1 v3 ) (va_cwS 3 hts (mm_gS mm_w191 mm_w192 mm_w5 mm_w193) rfl rfl rfl hs_X12_in ⟨by rw [hRf]; exact Nat.le_of_ble_eq_true rfl, by rw [hRl]; exact Nat.le_of_ble_eq_true rfl⟩) (mm_preS hK hZ hS hA hP hD [] rfl rfl) rfl rfl hl.1 rfl (lv_room (Nat.le_of_ble_eq_true rfl)) dX12_isLand_12 ⟨by rw [hRc]; exact Nat.le_of_ble_eq_true rfl, by rw [hRs]; exact Nat.le_of_ble_eq_true rfl⟩) hP hD hS hA [] rfl (fun _ => rfl) ?_
  clear hP hD hS
  clear H locs
  intro v4 _u H locs hw hP hD hS
  rcases hw with ⟨rfl, w5⟩ | ⟨rfl, w6, w7, w8, w9⟩
  · subst hAe
    rw [hQ]
    exact W.zret (v := 0) hx hb hr rfl (fun t ht hW => ⟨⟨0, (), rfl, (Or.inl rfl), by rw [ht]; exact hP, hK.warm hW, hD⟩, hS.F ht⟩) hS.2.2 dX12_isLand_15
  · have q10 := mm_meetl (lo := 0) (hi := 2147483647) w6 rv1 (by decide)
    have q11 := mm_meet (lo := 0) (hi := 2147483647) (mm_l2x ev1 q10) (mm_top i_0) (by decide)
    have q12 := mm_meetl (lo := 0) (hi := 2) w7 rv3 (by decide)
    have q13 := mm_leLl w8 q10 q12
    have q14 := mm_meet (lo := 0) (hi := 2) (mm_l2x ev1 q13) q11 (by decide)
    have w15 : (i_0 : Int32).toInt < (i_21 : Int32).toInt := by have := (mm_i2lE ev1); have := (mm_i2lE ev2); have := tv3; have := w8; omega
    have q16 := mm_ltR (lo := 1) w15 q14 h3 (by decide)
    subst hAe
    rw [hQ]
    exact W.zret (v := 1) hx hb hr rfl (fun t ht hW => ⟨⟨1, (), rfl, (Or.inr ⟨rfl, q14, w15⟩), by rw [ht]; exact hP, hK.warm hW, hD⟩, hS.F ht⟩) hS.2.2 dX12_isLand_15

set_option maxHeartbeats 4000000 in
set_option maxRecDepth 100000 in
theorem M99_X12_isBook (l : Launch) (G : va_G) (cy : Nat → ClassId) (sz : Nat) (a_0 : Nat) (i_0 : Int32) (a_1 : Nat) (a_2 : Nat) (a_3 : Nat) (a_4 : Nat) (a_5 : Nat) (i_1 : Int32) (i_2 : Int32) (i_3 : Int32) (i_4 : Int32) (i_5 : Int32) (j_0 : Int64) (i_6 : Int32) (i_7 : Int32) (i_8 : Int32) (i_9 : Int32) (a_6 : Nat) (a_7 : Nat) (a_8 : Nat) (a_9 : Nat) (a_10 : Nat) (a_11 : Nat) (a_12 : Nat) (a_13 : Nat) (a_14 : Nat) (a_15 : Nat) (a_16 : Nat) (a_17 : Nat) (a_18 : Nat) (i_10 : Int32) (i_11 : Int32) (i_12 : Int32) (i_13 : Int32) (i_14 : Int32) (i_15 : Int32) (a_19 : Nat) (i_16 : Int32) (a_20 : Nat) (i_17 : Int32) (i_18 : Int32) (i_19 : Int32) (i_20 : Int32) (i_21 : Int32) (h0 : mm_rg i_17 0 601) (h1 : mm_rg i_18 0 601) (h2 : mm_rg i_19 0 601) (h3 : mm_rg i_20 0 601) (h4 : mm_rg i_21 0 601)  : mm_CI l yX12_isBook (mm_ws yX12_isBook cX12_isBook 1 (some .boolean)) ({ frames := 0, cells := 0, slots := 0, locals := 0 } : Room) G cy sz [(a_0, .inr (12, [.int i_0, .ref a_1, .ref a_2, .ref a_3, .ref a_4, .ref a_5, .int i_1, .int i_2, .int i_3, .int i_4, .int i_5, .long j_0, .int i_6, .int i_7, .int i_8, .int i_9, .ref a_6, .ref a_7, .ref a_8, .ref a_9, .ref a_10, .ref a_11, .ref a_12, .ref a_13, .ref a_14, .ref a_15, .ref a_16, .ref a_17, .ref a_18, .int i_10, .int i_11, .int i_12, .int i_13, .int i_14, .int i_15, .ref a_19, .int i_16, .ref a_20])), (a_6, .inl (cy 1, 5, .inl (mm_g [i_17, i_18, i_19, i_20, i_21])))] [.ref a_0] (fun u : Unit => [(a_0, .inr (12, [.int i_0, .ref a_1, .ref a_2, .ref a_3, .ref a_4, .ref a_5, .int i_1, .int i_2, .int i_3, .int i_4, .int i_5, .long j_0, .int i_6, .int i_7, .int i_8, .int i_9, .ref a_6, .ref a_7, .ref a_8, .ref a_9, .ref a_10, .ref a_11, .ref a_12, .ref a_13, .ref a_14, .ref a_15, .ref a_16, .ref a_17, .ref a_18, .int i_10, .int i_11, .int i_12, .int i_13, .int i_14, .int i_15, .ref a_19, .int i_16, .ref a_20])), (a_6, .inl (cy 1, 5, .inl (mm_g [i_17, i_18, i_19, i_20, i_21])))]) (fun (r : Int32) (u : Unit) => ((0 = r) ∨ (1 = r))) 0 0 := by
  refine mm_begin (lv := [(0, .ref a_0)]) (by decide) (Nat.le_of_ble_eq_true rfl) rfl ?_
  intro p e s m below meth c A ls R args Q H locs hRe hQ hAe hx hb hr hlocks hml hown hnm hts hsz hA hS hP hK hD hZ hl
  have hRf : R.frames = 0 := by rw [hRe]
  have hRl : R.locals = 0 := by rw [hRe]
  have hRc : R.cells = 0 := by rw [hRe]
  have hRs : R.slots = 0 := by rw [hRe]
  refine lv_aload_n hx hb dX12_isBook_0 rfl (lv_at hl 0 rfl) ?_
  refine va_get (D := G) (ci := 12) (v := .ref a_6) (C := RX12) (T := TX12) (N := 38) hx hb hts (mm_i inlX12) hown hK.1 hP 0 rfl rfl 16 (by decide) (mm_h hts mm_w148) (fun _ h9 => h9) rfl dX12_isBook_1 ?_
  refine lv_iconst (v := 0) hx hb dX12_isBook_4 (by decide) ?_
  refine va_iald hx hb hK.1 hP 1 1 rfl rfl (mm_in mm_k0 (by decide)) dX12_isBook_5 ?_
  refine W.eq (g2 := F0 m 6 ls [.int i_17]) rfl ?_
  refine lv_if_le (tgt := 13) hx hb dX12_isBook_6 (by decide) (fun c1 => ?_) (fun c1 => ?_)
  · have q2 := mm_leL (mm_le c1) h0 mm_k0
    refine lv_iconst (v := 0) hx hb dX12_isBook_13 (by decide) ?_
    subst hAe
    rw [hQ]
    exact W.zret (v := 0) hx hb hr rfl (fun t ht hW => ⟨⟨0, (), rfl, (Or.inl rfl), by rw [ht]; exact hP, hK.warm hW, hD⟩, hS.F ht⟩) hS.2.2 dX12_isBook_14
  · have q3 := mm_ltR (lo := 1) (mm_nle c1) mm_k0 h0 (by decide)
    refine lv_iconst (v := 1) hx hb dX12_isBook_9 (by decide) ?_
    refine lv_goto (tgt := 14) hx hb dX12_isBook_10 (by decide) ?_
    subst hAe
    rw [hQ]
    exact W.zret (v := 1) hx hb hr rfl (fun t ht hW => ⟨⟨1, (), rfl, (Or.inr rfl), by rw [ht]; exact hP, hK.warm hW, hD⟩, hS.F ht⟩) hS.2.2 dX12_isBook_14

set_option maxHeartbeats 4000000 in
set_option maxRecDepth 100000 in
theorem M100_X12_words (l : Launch) (G : va_G) (cy : Nat → ClassId) (sz : Nat) (a_0 : Nat) (i_0 : Int32) (a_1 : Nat) (a_2 : Nat) (a_3 : Nat) (a_4 : Nat) (a_5 : Nat) (i_1 : Int32) (i_2 : Int32) (i_3 : Int32) (i_4 : Int32) (i_5 : Int32) (j_0 : Int64) (i_6 : Int32) (i_7 : Int32) (i_8 : Int32) (i_9 : Int32) (a_6 : Nat) (a_7 : Nat) (a_8 : Nat) (a_9 : Nat) (a_10 : Nat) (a_11 : Nat) (a_12 : Nat) (a_13 : Nat) (a_14 : Nat) (a_15 : Nat) (a_16 : Nat) (a_17 : Nat) (a_18 : Nat) (i_10 : Int32) (i_11 : Int32) (i_12 : Int32) (i_13 : Int32) (i_14 : Int32) (i_15 : Int32) (a_19 : Nat) (i_16 : Int32) (a_20 : Nat) (i_17 : Int32) (i_18 : Int32) (i_19 : Int32) (i_20 : Int32) (i_21 : Int32) (i_22 : Int32) (i_23 : Int32) (i_24 : Int32) (i_25 : Int32) (i_26 : Int32) (i_27 : Int32) (i_28 : Int32) (i_29 : Int32) (i_30 : Int32) (i_31 : Int32) (i_32 : Int32) (i_33 : Int32) (i_34 : Int32) (i_35 : Int32) (i_36 : Int32) (i_37 : Int32) (i_38 : Int32) (i_39 : Int32) (i_40 : Int32) (i_41 : Int32) (i_42 : Int32) (i_43 : Int32) (i_44 : Int32) (i_45 : Int32) (i_46 : Int32) (i_47 : Int32) (i_48 : Int32) (i_49 : Int32) (i_50 : Int32) (i_51 : Int32) (h0 : mm_rg i_17 0 601) (h1 : mm_rg i_18 0 601) (h2 : mm_rg i_19 0 601) (h3 : mm_rg i_20 0 601) (h4 : mm_rg i_21 0 601) (h5 : mm_rg i_22 0 10) (h6 : mm_rg i_23 0 99) (h7 : mm_rg i_24 0 9) (h8 : mm_rg i_25 0 3) (h9 : mm_rg i_26 0 6) (h10 : mm_rg i_27 0 30) (h11 : mm_rg i_28 0 10) (h12 : mm_rg i_29 0 99) (h13 : mm_rg i_30 0 9) (h14 : mm_rg i_31 0 3) (h15 : mm_rg i_32 0 6) (h16 : mm_rg i_33 0 30) (h17 : mm_rg i_34 0 10) (h18 : mm_rg i_35 0 99) (h19 : mm_rg i_36 0 9) (h20 : mm_rg i_37 0 3) (h21 : mm_rg i_38 0 6) (h22 : mm_rg i_39 0 30) (h23 : mm_rg i_40 0 10) (h24 : mm_rg i_41 0 99) (h25 : mm_rg i_42 0 9) (h26 : mm_rg i_43 0 3) (h27 : mm_rg i_44 0 6) (h28 : mm_rg i_45 0 30) (h29 : mm_rg i_46 0 10) (h30 : mm_rg i_47 0 99) (h31 : mm_rg i_48 0 9) (h32 : mm_rg i_49 0 3) (h33 : mm_rg i_50 0 6) (h34 : mm_rg i_51 0 30) (h35 : mm_tl i_17 i_25 i_26) (h36 : mm_tl i_18 i_31 i_32) (h37 : mm_tl i_19 i_37 i_38) (h38 : mm_tl i_20 i_43 i_44)  : mm_CI l yX12_words (mm_ws yX12_words cX12_words 1 (some .int)) ({ frames := 1, cells := 0, slots := 0, locals := 20 } : Room) G cy sz [(a_0, .inr (12, [.int i_0, .ref a_1, .ref a_2, .ref a_3, .ref a_4, .ref a_5, .int i_1, .int i_2, .int i_3, .int i_4, .int i_5, .long j_0, .int i_6, .int i_7, .int i_8, .int i_9, .ref a_6, .ref a_7, .ref a_8, .ref a_9, .ref a_10, .ref a_11, .ref a_12, .ref a_13, .ref a_14, .ref a_15, .ref a_16, .ref a_17, .ref a_18, .int i_10, .int i_11, .int i_12, .int i_13, .int i_14, .int i_15, .ref a_19, .int i_16, .ref a_20])), (a_6, .inl (cy 1, 5, .inl (mm_g [i_17, i_18, i_19, i_20, i_21]))), (a_7, .inl (cy 1, 30, .inl (mm_g [i_22, i_23, i_24, i_25, i_26, i_27, i_28, i_29, i_30, i_31, i_32, i_33, i_34, i_35, i_36, i_37, i_38, i_39, i_40, i_41, i_42, i_43, i_44, i_45, i_46, i_47, i_48, i_49, i_50, i_51])))] [.ref a_0] (fun u : Unit => [(a_0, .inr (12, [.int i_0, .ref a_1, .ref a_2, .ref a_3, .ref a_4, .ref a_5, .int i_1, .int i_2, .int i_3, .int i_4, .int i_5, .long j_0, .int i_6, .int i_7, .int i_8, .int i_9, .ref a_6, .ref a_7, .ref a_8, .ref a_9, .ref a_10, .ref a_11, .ref a_12, .ref a_13, .ref a_14, .ref a_15, .ref a_16, .ref a_17, .ref a_18, .int i_10, .int i_11, .int i_12, .int i_13, .int i_14, .int i_15, .ref a_19, .int i_16, .ref a_20])), (a_6, .inl (cy 1, 5, .inl (mm_g [i_17, i_18, i_19, i_20, i_21]))), (a_7, .inl (cy 1, 30, .inl (mm_g [i_22, i_23, i_24, i_25, i_26, i_27, i_28, i_29, i_30, i_31, i_32, i_33, i_34, i_35, i_36, i_37, i_38, i_39, i_40, i_41, i_42, i_43, i_44, i_45, i_46, i_47, i_48, i_49, i_50, i_51])))]) (fun (r : Int32) (u : Unit) => mm_rg r 0 10) 0 0 := by
  refine mm_begin (lv := [(0, .ref a_0)]) (by decide) (Nat.le_of_ble_eq_true rfl) rfl ?_
  intro p e s m below meth c A ls R args Q H locs hRe hQ hAe hx hb hr hlocks hml hown hnm hts hsz hA hS hP hK hD hZ hl
  have hRf : R.frames = 1 := by rw [hRe]
  have hRl : R.locals = 20 := by rw [hRe]
  have hRc : R.cells = 0 := by rw [hRe]
  have hRs : R.slots = 0 := by rw [hRe]
  refine lv_aload_n hx hb dX12_words_0 rfl (lv_at hl 0 rfl) ?_
  refine mm_finir (va_runV (As := []) (rest := []) ⟨hx, hb, hml, hown, hts⟩ (M99_X12_isBook l G cy H.size a_0 i_0 a_1 a_2 a_3 a_4 a_5 i_1 i_2 i_3 i_4 i_5 j_0 i_6 i_7 i_8 i_9 a_6 a_7 a_8 a_9 a_10 a_11 a_12 a_13 a_14 a_15 a_16 a_17 a_18 i_10 i_11 i_12 i_13 i_14 i_15 a_19 i_16 a_20 i_17 i_18 i_19 i_20 i_21 h0 h1 h2 h3 h4) (cwV 0 hts (mm_gV mm_w653 mm_w654 mm_w655 mm_w5 mm_w656) rfl rfl rfl hd_X12_isBook ⟨by rw [hRf]; exact Nat.le_of_ble_eq_true rfl, by rw [hRl]; exact Nat.le_of_ble_eq_true rfl⟩) (mm_preV hK hZ hS hA hP hD [0, 1] rfl rfl 0 rfl rfl rfl) rfl rfl hl.1 rfl (lv_room (Nat.le_of_ble_eq_true rfl)) dX12_words_1 ⟨by rw [hRc]; exact Nat.le_of_ble_eq_true rfl, by rw [hRs]; exact Nat.le_of_ble_eq_true rfl⟩) hP hD hS hA [0, 1] rfl (fun _ => rfl) ?_
  clear hP hD hS
  clear H locs
  intro v1 _u H locs hw hP hD hS
  rcases hw with rfl | rfl
  · refine lv_if_eq (tgt := 16) hx hb dX12_words_4 (by decide) (fun c2 => ?_) (fun c2 => ?_)
    · refine lv_iconst (v := 0) hx hb dX12_words_16 (by decide) ?_
      subst hAe
      rw [hQ]
      exact W.iret (v := 0) hx hb hr (fun t ht hW => ⟨⟨0, (), rfl, (mm_wk mm_k0 (by decide)), by rw [ht]; exact hP, hK.warm hW, hD⟩, hS.F ht⟩) hS.2.2 dX12_words_17
    · have q3 := mm_neL (lo := 1) (mm_ne c2) mm_k0 mm_k0 (by decide) (by decide)
      exact mm_no q3 (by decide)
  · refine lv_if_eq (tgt := 16) hx hb dX12_words_4 (by decide) (fun c4 => ?_) (fun c4 => ?_)
    · exact mm_eqN c4.symm mm_k0 mm_k1 (by decide)
    · refine lv_aload_n hx hb dX12_words_7 rfl (lv_at hl 0 rfl) ?_
      refine mm_finir (va_runV (As := []) (rest := []) ⟨hx, hb, hml, hown, hts⟩ (M92_X12_senses l G cy H.size a_0 i_0 a_1 a_2 a_3 a_4 a_5 i_1 i_2 i_3 i_4 i_5 j_0 i_6 i_7 i_8 i_9 a_6 a_7 a_8 a_9 a_10 a_11 a_12 a_13 a_14 a_15 a_16 a_17 a_18 i_10 i_11 i_12 i_13 i_14 i_15 a_19 i_16 a_20 i_22 i_23 i_24 i_25 i_26 i_27 i_28 i_29 i_30 i_31 i_32 i_33 i_34 i_35 i_36 i_37 i_38 i_39 i_40 i_41 i_42 i_43 i_44 i_45 i_46 i_47 i_48 i_49 i_50 i_51 h5 h6 h7 h8 h9 h10 h11 h12 h13 h14 h15 h16 h17 h18 h19 h20 h21 h22 h23 h24 h25 h26 h27 h28 h29 h30 h31 h32 h33 h34) (cwV 0 hts (mm_gV mm_w588 mm_w589 mm_w590 mm_w5 mm_w591) rfl rfl rfl hd_X12_senses ⟨by rw [hRf]; exact Nat.le_of_ble_eq_true rfl, by rw [hRl]; exact Nat.le_of_ble_eq_true rfl⟩) (mm_preV hK hZ hS hA hP hD [0, 2] rfl rfl 0 rfl rfl rfl) rfl rfl hl.1 rfl (lv_room (Nat.le_of_ble_eq_true rfl)) dX12_words_8 ⟨by rw [hRc]; exact Nat.le_of_ble_eq_true rfl, by rw [hRs]; exact Nat.le_of_ble_eq_true rfl⟩) hP hD hS hA [0, 2] rfl (fun _ => rfl) ?_
      clear hP hD hS
      clear H locs
      intro v5 _u H locs hw hP hD hS
      subst hw
      refine lv_iconst (v := 1) hx hb dX12_words_11 (by decide) ?_
      refine lv_iadd hx hb dX12_words_12 ?_
      refine lv_topi (fun v6 ev6 => ?_)
      have rv6 : mm_rg v6 1 10 := mm_add ev6 h7 mm_k1 (by decide) (by decide)
      have tv6 := mm_addEc ev6 h7 mm_k1 (by decide) (k := 1) (by decide)
      refine lv_goto (tgt := 17) hx hb dX12_words_13 (by decide) ?_
      subst hAe
      rw [hQ]
      exact W.iret (v := v6) hx hb hr (fun t ht hW => ⟨⟨v6, (), rfl, (mm_wk rv6 (by decide)), by rw [ht]; exact hP, hK.warm hW, hD⟩, hS.F ht⟩) hS.2.2 dX12_words_17

set_option maxHeartbeats 4000000 in
set_option maxRecDepth 100000 in
theorem M101_X12_isWord (l : Launch) (G : va_G) (cy : Nat → ClassId) (sz : Nat) (a_0 : Nat) (i_0 : Int32) (i_1 : Int32) (a_1 : Nat) (a_2 : Nat) (a_3 : Nat) (a_4 : Nat) (a_5 : Nat) (i_2 : Int32) (i_3 : Int32) (i_4 : Int32) (i_5 : Int32) (i_6 : Int32) (j_0 : Int64) (i_7 : Int32) (i_8 : Int32) (i_9 : Int32) (i_10 : Int32) (a_6 : Nat) (a_7 : Nat) (a_8 : Nat) (a_9 : Nat) (a_10 : Nat) (a_11 : Nat) (a_12 : Nat) (a_13 : Nat) (a_14 : Nat) (a_15 : Nat) (a_16 : Nat) (a_17 : Nat) (a_18 : Nat) (i_11 : Int32) (i_12 : Int32) (i_13 : Int32) (i_14 : Int32) (i_15 : Int32) (i_16 : Int32) (a_19 : Nat) (i_17 : Int32) (a_20 : Nat) (i_18 : Int32) (i_19 : Int32) (i_20 : Int32) (i_21 : Int32) (i_22 : Int32) (i_23 : Int32) (i_24 : Int32) (i_25 : Int32) (i_26 : Int32) (i_27 : Int32) (i_28 : Int32) (i_29 : Int32) (i_30 : Int32) (i_31 : Int32) (i_32 : Int32) (i_33 : Int32) (i_34 : Int32) (i_35 : Int32) (i_36 : Int32) (i_37 : Int32) (i_38 : Int32) (i_39 : Int32) (i_40 : Int32) (i_41 : Int32) (i_42 : Int32) (i_43 : Int32) (i_44 : Int32) (i_45 : Int32) (i_46 : Int32) (i_47 : Int32) (i_48 : Int32) (i_49 : Int32) (i_50 : Int32) (i_51 : Int32) (i_52 : Int32) (h0 : mm_rg i_18 0 601) (h1 : mm_rg i_19 0 601) (h2 : mm_rg i_20 0 601) (h3 : mm_rg i_21 0 601) (h4 : mm_rg i_22 0 601) (h5 : mm_rg i_23 0 10) (h6 : mm_rg i_24 0 99) (h7 : mm_rg i_25 0 9) (h8 : mm_rg i_26 0 3) (h9 : mm_rg i_27 0 6) (h10 : mm_rg i_28 0 30) (h11 : mm_rg i_29 0 10) (h12 : mm_rg i_30 0 99) (h13 : mm_rg i_31 0 9) (h14 : mm_rg i_32 0 3) (h15 : mm_rg i_33 0 6) (h16 : mm_rg i_34 0 30) (h17 : mm_rg i_35 0 10) (h18 : mm_rg i_36 0 99) (h19 : mm_rg i_37 0 9) (h20 : mm_rg i_38 0 3) (h21 : mm_rg i_39 0 6) (h22 : mm_rg i_40 0 30) (h23 : mm_rg i_41 0 10) (h24 : mm_rg i_42 0 99) (h25 : mm_rg i_43 0 9) (h26 : mm_rg i_44 0 3) (h27 : mm_rg i_45 0 6) (h28 : mm_rg i_46 0 30) (h29 : mm_rg i_47 0 10) (h30 : mm_rg i_48 0 99) (h31 : mm_rg i_49 0 9) (h32 : mm_rg i_50 0 3) (h33 : mm_rg i_51 0 6) (h34 : mm_rg i_52 0 30) (h35 : mm_tl i_18 i_26 i_27) (h36 : mm_tl i_19 i_32 i_33) (h37 : mm_tl i_20 i_38 i_39) (h38 : mm_tl i_21 i_44 i_45)  : mm_CI l yX12_isWord (mm_ws yX12_isWord cX12_isWord 2 (some .boolean)) ({ frames := 2, cells := 0, slots := 0, locals := 40 } : Room) G cy sz [(a_0, .inr (12, [.int i_1, .ref a_1, .ref a_2, .ref a_3, .ref a_4, .ref a_5, .int i_2, .int i_3, .int i_4, .int i_5, .int i_6, .long j_0, .int i_7, .int i_8, .int i_9, .int i_10, .ref a_6, .ref a_7, .ref a_8, .ref a_9, .ref a_10, .ref a_11, .ref a_12, .ref a_13, .ref a_14, .ref a_15, .ref a_16, .ref a_17, .ref a_18, .int i_11, .int i_12, .int i_13, .int i_14, .int i_15, .int i_16, .ref a_19, .int i_17, .ref a_20])), (a_6, .inl (cy 1, 5, .inl (mm_g [i_18, i_19, i_20, i_21, i_22]))), (a_7, .inl (cy 1, 30, .inl (mm_g [i_23, i_24, i_25, i_26, i_27, i_28, i_29, i_30, i_31, i_32, i_33, i_34, i_35, i_36, i_37, i_38, i_39, i_40, i_41, i_42, i_43, i_44, i_45, i_46, i_47, i_48, i_49, i_50, i_51, i_52])))] [.ref a_0, .int i_0] (fun u : Unit => [(a_0, .inr (12, [.int i_1, .ref a_1, .ref a_2, .ref a_3, .ref a_4, .ref a_5, .int i_2, .int i_3, .int i_4, .int i_5, .int i_6, .long j_0, .int i_7, .int i_8, .int i_9, .int i_10, .ref a_6, .ref a_7, .ref a_8, .ref a_9, .ref a_10, .ref a_11, .ref a_12, .ref a_13, .ref a_14, .ref a_15, .ref a_16, .ref a_17, .ref a_18, .int i_11, .int i_12, .int i_13, .int i_14, .int i_15, .int i_16, .ref a_19, .int i_17, .ref a_20])), (a_6, .inl (cy 1, 5, .inl (mm_g [i_18, i_19, i_20, i_21, i_22]))), (a_7, .inl (cy 1, 30, .inl (mm_g [i_23, i_24, i_25, i_26, i_27, i_28, i_29, i_30, i_31, i_32, i_33, i_34, i_35, i_36, i_37, i_38, i_39, i_40, i_41, i_42, i_43, i_44, i_45, i_46, i_47, i_48, i_49, i_50, i_51, i_52])))]) (fun (r : Int32) (u : Unit) => ((0 = r) ∨ (1 = r ∧ mm_rg i_0 0 9))) 0 0 := by
  refine mm_begin (lv := [(0, .ref a_0), (1, .int i_0)]) (by decide) (Nat.le_of_ble_eq_true rfl) rfl ?_
  intro p e s m below meth c A ls R args Q H locs hRe hQ hAe hx hb hr hlocks hml hown hnm hts hsz hA hS hP hK hD hZ hl
  have hRf : R.frames = 2 := by rw [hRe]
  have hRl : R.locals = 40 := by rw [hRe]
  have hRc : R.cells = 0 := by rw [hRe]
  have hRs : R.slots = 0 := by rw [hRe]
  refine lv_iload_n hx hb dX12_isWord_0 rfl (lv_at hl 1 rfl) ?_
  obtain ⟨v1, ev1⟩ : ∃ y : Int64, y = i_0.toInt64 := ⟨_, rfl⟩
  refine lv_i2l hx hb dX12_isWord_1 ev1.symm ?_
  have rv1 : mm_rl v1 (-2147483648) 2147483647 := mm_i2l ev1 (mm_top i_0)
  refine lv_lconst (v := 0) hx hb dX12_isWord_2 (by decide) ?_
  refine lv_aload_n hx hb dX12_isWord_3 rfl (lv_at hl 0 rfl) ?_
  refine mm_finir (va_runV (As := []) (rest := [.long 0, .long v1]) ⟨hx, hb, hml, hown, hts⟩ (M100_X12_words l G cy H.size a_0 i_1 a_1 a_2 a_3 a_4 a_5 i_2 i_3 i_4 i_5 i_6 j_0 i_7 i_8 i_9 i_10 a_6 a_7 a_8 a_9 a_10 a_11 a_12 a_13 a_14 a_15 a_16 a_17 a_18 i_11 i_12 i_13 i_14 i_15 i_16 a_19 i_17 a_20 i_18 i_19 i_20 i_21 i_22 i_23 i_24 i_25 i_26 i_27 i_28 i_29 i_30 i_31 i_32 i_33 i_34 i_35 i_36 i_37 i_38 i_39 i_40 i_41 i_42 i_43 i_44 i_45 i_46 i_47 i_48 i_49 i_50 i_51 i_52 h0 h1 h2 h3 h4 h5 h6 h7 h8 h9 h10 h11 h12 h13 h14 h15 h16 h17 h18 h19 h20 h21 h22 h23 h24 h25 h26 h27 h28 h29 h30 h31 h32 h33 h34 h35 h36 h37 h38) (cwV 0 hts (mm_gV mm_w649 mm_w650 mm_w651 mm_w5 mm_w652) rfl rfl rfl hd_X12_words ⟨by rw [hRf]; exact Nat.le_of_ble_eq_true rfl, by rw [hRl]; exact Nat.le_of_ble_eq_true rfl⟩) (mm_preV hK hZ hS hA hP hD [0, 1, 2] rfl rfl 0 rfl rfl rfl) rfl rfl hl.1 rfl (lv_room (Nat.le_of_ble_eq_true rfl)) dX12_isWord_4 ⟨by rw [hRc]; exact Nat.le_of_ble_eq_true rfl, by rw [hRs]; exact Nat.le_of_ble_eq_true rfl⟩) hP hD hS hA [0, 1, 2] rfl (fun _ => rfl) ?_
  clear hP hD hS
  clear H locs
  intro v2 _u H locs hw hP hD hS
  have w3 := hw
  obtain ⟨v4, ev4⟩ : ∃ y : Int64, y = v2.toInt64 := ⟨_, rfl⟩
  refine lv_i2l hx hb dX12_isWord_7 ev4.symm ?_
  have rv4 : mm_rl v4 0 10 := mm_i2l ev4 w3
  refine lv_lconst (v := 1) hx hb dX12_isWord_8 (by decide) ?_
  refine lv_lsub hx hb dX12_isWord_9 ?_
  refine lv_topl (fun v5 ev5 => ?_)
  have rv5 : mm_rl v5 (-1) 9 := mm_subl ev5 rv4 mm_kl1 (by decide) (by decide)
  have tv5 := mm_sublEc ev5 rv4 mm_kl1 (by decide) (k := 1) (by decide)
  refine mm_finir (va_runS (As := [.long v1, .long 0, .long v5]) (rest := []) ⟨hx, hb, hml, hown, hts⟩ (M7_X12_in l G cy H.size v1 v5 ) (va_cwS 3 hts (mm_gS mm_w191 mm_w192 mm_w5 mm_w193) rfl rfl rfl hs_X12_in ⟨by rw [hRf]; exact Nat.le_of_ble_eq_true rfl, by rw [hRl]; exact Nat.le_of_ble_eq_true rfl⟩) (mm_preS hK hZ hS hA hP hD [] rfl rfl) rfl rfl hl.1 rfl (lv_room (Nat.le_of_ble_eq_true rfl)) dX12_isWord_10 ⟨by rw [hRc]; exact Nat.le_of_ble_eq_true rfl, by rw [hRs]; exact Nat.le_of_ble_eq_true rfl⟩) hP hD hS hA [] rfl (fun _ => rfl) ?_
  clear hP hD hS
  clear H locs
  intro v6 _u H locs hw hP hD hS
  rcases hw with ⟨rfl, w7⟩ | ⟨rfl, w8, w9, w10, w11⟩
  · subst hAe
    rw [hQ]
    exact W.zret (v := 0) hx hb hr rfl (fun t ht hW => ⟨⟨0, (), rfl, (Or.inl rfl), by rw [ht]; exact hP, hK.warm hW, hD⟩, hS.F ht⟩) hS.2.2 dX12_isWord_13
  · have q12 := mm_meetl (lo := 0) (hi := 2147483647) w8 rv1 (by decide)
    have q13 := mm_meet (lo := 0) (hi := 2147483647) (mm_l2x ev1 q12) (mm_top i_0) (by decide)
    have q14 := mm_meetl (lo := 0) (hi := 9) w9 rv5 (by decide)
    have q15 := mm_leLl w10 q12 q14
    have q16 := mm_meet (lo := 0) (hi := 9) (mm_l2x ev1 q15) q13 (by decide)
    have w17 : (i_0 : Int32).toInt < (v2 : Int32).toInt := by have := (mm_i2lE ev1); have := (mm_i2lE ev4); have := tv5; have := w10; omega
    have q18 := mm_ltR (lo := 1) w17 q16 w3 (by decide)
    subst hAe
    rw [hQ]
    exact W.zret (v := 1) hx hb hr rfl (fun t ht hW => ⟨⟨1, (), rfl, (Or.inr ⟨rfl, q16⟩), by rw [ht]; exact hP, hK.warm hW, hD⟩, hS.F ht⟩) hS.2.2 dX12_isWord_13

set_option maxHeartbeats 4000000 in
set_option maxRecDepth 100000 in
theorem M102_X12_rule (l : Launch) (G : va_G) (cy : Nat → ClassId) (sz : Nat) (a_0 : Nat) (i_0 : Int32) (i_1 : Int32) (i_2 : Int32) (i_3 : Int32) (a_1 : Nat) (a_2 : Nat) (a_3 : Nat) (a_4 : Nat) (a_5 : Nat) (i_4 : Int32) (i_5 : Int32) (i_6 : Int32) (i_7 : Int32) (i_8 : Int32) (j_0 : Int64) (i_9 : Int32) (i_10 : Int32) (i_11 : Int32) (i_12 : Int32) (a_6 : Nat) (a_7 : Nat) (a_8 : Nat) (a_9 : Nat) (a_10 : Nat) (a_11 : Nat) (a_12 : Nat) (a_13 : Nat) (a_14 : Nat) (a_15 : Nat) (a_16 : Nat) (a_17 : Nat) (a_18 : Nat) (i_13 : Int32) (i_14 : Int32) (i_15 : Int32) (i_16 : Int32) (i_17 : Int32) (i_18 : Int32) (a_19 : Nat) (i_19 : Int32) (a_20 : Nat) (i_20 : Int32) (i_21 : Int32) (i_22 : Int32) (i_23 : Int32) (i_24 : Int32) (i_25 : Int32) (i_26 : Int32) (i_27 : Int32) (i_28 : Int32) (i_29 : Int32) (i_30 : Int32) (i_31 : Int32) (i_32 : Int32) (i_33 : Int32) (i_34 : Int32) (i_35 : Int32) (i_36 : Int32) (i_37 : Int32) (i_38 : Int32) (i_39 : Int32) (i_40 : Int32) (i_41 : Int32) (i_42 : Int32) (i_43 : Int32) (i_44 : Int32) (i_45 : Int32) (i_46 : Int32) (i_47 : Int32) (i_48 : Int32) (i_49 : Int32) (i_50 : Int32) (i_51 : Int32) (i_52 : Int32) (i_53 : Int32) (i_54 : Int32) (f_0 : Nat → Int32) (f_1 : Nat → Int32) (h0 : mm_rg i_20 0 601) (h1 : mm_rg i_21 0 601) (h2 : mm_rg i_22 0 601) (h3 : mm_rg i_23 0 601) (h4 : mm_rg i_24 0 601) (h5 : mm_rg i_25 0 10) (h6 : mm_rg i_26 0 99) (h7 : mm_rg i_27 0 9) (h8 : mm_rg i_28 0 3) (h9 : mm_rg i_29 0 6) (h10 : mm_rg i_30 0 30) (h11 : mm_rg i_31 0 10) (h12 : mm_rg i_32 0 99) (h13 : mm_rg i_33 0 9) (h14 : mm_rg i_34 0 3) (h15 : mm_rg i_35 0 6) (h16 : mm_rg i_36 0 30) (h17 : mm_rg i_37 0 10) (h18 : mm_rg i_38 0 99) (h19 : mm_rg i_39 0 9) (h20 : mm_rg i_40 0 3) (h21 : mm_rg i_41 0 6) (h22 : mm_rg i_42 0 30) (h23 : mm_rg i_43 0 10) (h24 : mm_rg i_44 0 99) (h25 : mm_rg i_45 0 9) (h26 : mm_rg i_46 0 3) (h27 : mm_rg i_47 0 6) (h28 : mm_rg i_48 0 30) (h29 : mm_rg i_49 0 10) (h30 : mm_rg i_50 0 99) (h31 : mm_rg i_51 0 9) (h32 : mm_rg i_52 0 3) (h33 : mm_rg i_53 0 6) (h34 : mm_rg i_54 0 30) (h35 : mm_ar f_0 0 7) (h36 : mm_ar f_1 0 9) (h37 : mm_rls f_0 f_1 0 i_27 i_28) (h38 : mm_tl i_20 i_28 i_29) (h39 : mm_rls f_0 f_1 1 i_33 i_34) (h40 : mm_tl i_21 i_34 i_35) (h41 : mm_rls f_0 f_1 2 i_39 i_40) (h42 : mm_tl i_22 i_40 i_41) (h43 : mm_rls f_0 f_1 3 i_45 i_46) (h44 : mm_tl i_23 i_46 i_47)  : mm_CI l yX12_rule (mm_ws yX12_rule cX12_rule 4 (some .int)) ({ frames := 3, cells := 0, slots := 0, locals := 61 } : Room) G cy sz [(a_0, .inr (12, [.int i_3, .ref a_1, .ref a_2, .ref a_3, .ref a_4, .ref a_5, .int i_4, .int i_5, .int i_6, .int i_7, .int i_8, .long j_0, .int i_9, .int i_10, .int i_11, .int i_12, .ref a_6, .ref a_7, .ref a_8, .ref a_9, .ref a_10, .ref a_11, .ref a_12, .ref a_13, .ref a_14, .ref a_15, .ref a_16, .ref a_17, .ref a_18, .int i_13, .int i_14, .int i_15, .int i_16, .int i_17, .int i_18, .ref a_19, .int i_19, .ref a_20])), (a_6, .inl (cy 1, 5, .inl (mm_g [i_20, i_21, i_22, i_23, i_24]))), (a_7, .inl (cy 1, 30, .inl (mm_g [i_25, i_26, i_27, i_28, i_29, i_30, i_31, i_32, i_33, i_34, i_35, i_36, i_37, i_38, i_39, i_40, i_41, i_42, i_43, i_44, i_45, i_46, i_47, i_48, i_49, i_50, i_51, i_52, i_53, i_54]))), (a_9, .inl (cy 1, 15, .inl f_0)), (a_10, .inl (cy 1, 1050, .inl f_1))] [.ref a_0, .int i_0, .int i_1, .int i_2] (fun u : Unit => [(a_0, .inr (12, [.int 0, .ref a_1, .ref a_2, .ref a_3, .ref a_4, .ref a_5, .int i_4, .int i_5, .int i_6, .int i_7, .int i_8, .long j_0, .int i_9, .int i_10, .int i_11, .int i_12, .ref a_6, .ref a_7, .ref a_8, .ref a_9, .ref a_10, .ref a_11, .ref a_12, .ref a_13, .ref a_14, .ref a_15, .ref a_16, .ref a_17, .ref a_18, .int i_13, .int i_14, .int i_15, .int i_16, .int i_17, .int i_18, .ref a_19, .int i_19, .ref a_20])), (a_6, .inl (cy 1, 5, .inl (mm_g [i_20, i_21, i_22, i_23, i_24]))), (a_7, .inl (cy 1, 30, .inl (mm_g [i_25, i_26, i_27, i_28, i_29, i_30, i_31, i_32, i_33, i_34, i_35, i_36, i_37, i_38, i_39, i_40, i_41, i_42, i_43, i_44, i_45, i_46, i_47, i_48, i_49, i_50, i_51, i_52, i_53, i_54]))), (a_9, .inl (cy 1, 15, .inl f_0)), (a_10, .inl (cy 1, 1050, .inl f_1))]) (fun (r : Int32) (u : Unit) => mm_rg r (-2) 9) 0 0 := by
  refine mm_begin (lv := [(0, .ref a_0), (1, .int i_0), (2, .int i_1), (3, .int i_2)]) (by decide) (Nat.le_of_ble_eq_true rfl) rfl ?_
  intro p e s m below meth c A ls R args Q H locs hRe hQ hAe hx hb hr hlocks hml hown hnm hts hsz hA hS hP hK hD hZ hl
  have hRf : R.frames = 3 := by rw [hRe]
  have hRl : R.locals = 61 := by rw [hRe]
  have hRc : R.cells = 0 := by rw [hRe]
  have hRs : R.slots = 0 := by rw [hRe]
  refine lv_aload_n hx hb dX12_rule_0 rfl (lv_at hl 0 rfl) ?_
  refine lv_iconst (v := 0) hx hb dX12_rule_1 (by decide) ?_
  refine va_put (D := G) (ci := 12) (v := .int 0) (ty := tyX12 0) (C := RX12) (T := TX12) (N := 38) hx hb hts (mm_i inlX12) tyX12 tyX12_ok nmX12 hown hK.1 hP hD hS 0 rfl rfl 0 (by decide) (mm_h hts mm_w177) (fun _ h9 => h9) rfl (tyX12_ok 0 (by decide)) rfl rfl (Nat.le_of_ble_eq_true rfl) dX12_rule_2 ?_
  clear hP hD hS
  clear H locs
  intro H locs (hP : va_P G vwCl [(a_0, .inr (12, [.int 0, .ref a_1, .ref a_2, .ref a_3, .ref a_4, .ref a_5, .int i_4, .int i_5, .int i_6, .int i_7, .int i_8, .long j_0, .int i_9, .int i_10, .int i_11, .int i_12, .ref a_6, .ref a_7, .ref a_8, .ref a_9, .ref a_10, .ref a_11, .ref a_12, .ref a_13, .ref a_14, .ref a_15, .ref a_16, .ref a_17, .ref a_18, .int i_13, .int i_14, .int i_15, .int i_16, .int i_17, .int i_18, .ref a_19, .int i_19, .ref a_20])), (a_6, .inl (cy 1, 5, .inl (mm_g [i_20, i_21, i_22, i_23, i_24]))), (a_7, .inl (cy 1, 30, .inl (mm_g [i_25, i_26, i_27, i_28, i_29, i_30, i_31, i_32, i_33, i_34, i_35, i_36, i_37, i_38, i_39, i_40, i_41, i_42, i_43, i_44, i_45, i_46, i_47, i_48, i_49, i_50, i_51, i_52, i_53, i_54]))), (a_9, .inl (cy 1, 15, .inl f_0)), (a_10, .inl (cy 1, 1050, .inl f_1))] H) (hD : va_D A [(a_0, .inr (12, [.int 0, .ref a_1, .ref a_2, .ref a_3, .ref a_4, .ref a_5, .int i_4, .int i_5, .int i_6, .int i_7, .int i_8, .long j_0, .int i_9, .int i_10, .int i_11, .int i_12, .ref a_6, .ref a_7, .ref a_8, .ref a_9, .ref a_10, .ref a_11, .ref a_12, .ref a_13, .ref a_14, .ref a_15, .ref a_16, .ref a_17, .ref a_18, .int i_13, .int i_14, .int i_15, .int i_16, .int i_17, .int i_18, .ref a_19, .int i_19, .ref a_20])), (a_6, .inl (cy 1, 5, .inl (mm_g [i_20, i_21, i_22, i_23, i_24]))), (a_7, .inl (cy 1, 30, .inl (mm_g [i_25, i_26, i_27, i_28, i_29, i_30, i_31, i_32, i_33, i_34, i_35, i_36, i_37, i_38, i_39, i_40, i_41, i_42, i_43, i_44, i_45, i_46, i_47, i_48, i_49, i_50, i_51, i_52, i_53, i_54]))), (a_9, .inl (cy 1, 15, .inl f_0)), (a_10, .inl (cy 1, 1050, .inl f_1))]) hS
  refine lv_aload_n hx hb dX12_rule_5 rfl (lv_at hl 0 rfl) ?_
  refine lv_iload_n hx hb dX12_rule_6 rfl (lv_at hl 1 rfl) ?_
  refine mm_finir (va_runV (As := [.int i_0]) (rest := []) ⟨hx, hb, hml, hown, hts⟩ (M98_X12_isLand l G cy H.size a_0 i_0 0 a_1 a_2 a_3 a_4 a_5 i_4 i_5 i_6 i_7 i_8 j_0 i_9 i_10 i_11 i_12 a_6 a_7 a_8 a_9 a_10 a_11 a_12 a_13 a_14 a_15 a_16 a_17 a_18 i_13 i_14 i_15 i_16 i_17 i_18 a_19 i_19 a_20 i_25 i_26 i_27 i_28 i_29 i_30 i_31 i_32 i_33 i_34 i_35 i_36 i_37 i_38 i_39 i_40 i_41 i_42 i_43 i_44 i_45 i_46 i_47 i_48 i_49 i_50 i_51 i_52 i_53 i_54 h5 h6 h7 h8 h9 h10 h11 h12 h13 h14 h15 h16 h17 h18 h19 h20 h21 h22 h23 h24 h25 h26 h27 h28 h29 h30 h31 h32 h33 h34) (cwV 1 hts (mm_gV mm_w641 mm_w642 mm_w643 mm_w5 mm_w644) rfl rfl rfl hd_X12_isLand ⟨by rw [hRf]; exact Nat.le_of_ble_eq_true rfl, by rw [hRl]; exact Nat.le_of_ble_eq_true rfl⟩) (mm_preV hK hZ hS hA hP hD [0, 2] rfl rfl 0 rfl rfl rfl) rfl rfl hl.1 rfl (lv_room (Nat.le_of_ble_eq_true rfl)) dX12_rule_7 ⟨by rw [hRc]; exact Nat.le_of_ble_eq_true rfl, by rw [hRs]; exact Nat.le_of_ble_eq_true rfl⟩) hP hD hS hA [0, 2] rfl (fun _ => rfl) ?_
  clear hP hD hS
  clear H locs
  intro v1 _u H locs hw hP hD hS
  rcases hw with rfl | ⟨rfl, w2, w3⟩
  · refine lv_if_eq (tgt := 58) hx hb dX12_rule_10 (by decide) (fun c4 => ?_) (fun c4 => ?_)
    · refine lv_bipush (v := (-2)) hx hb dX12_rule_58 (by decide) ?_
      subst hAe
      rw [hQ]
      exact W.iret (v := (-2)) hx hb hr (fun t ht hW => ⟨⟨(-2), (), rfl, (mm_wk mm_km2 (by decide)), by rw [ht]; exact hP, hK.warm hW, hD⟩, hS.F ht⟩) hS.2.2 dX12_rule_60
    · have q5 := mm_neL (lo := 1) (mm_ne c4) mm_k0 mm_k0 (by decide) (by decide)
      exact mm_no q5 (by decide)
  · have q6 := mm_ltR (lo := 1) w3 w2 h8 (by decide)
    have q7 : mm_rg i_20 1 601 := mm_tl_3 h38 q6 h0 (by decide)
    refine lv_if_eq (tgt := 58) hx hb dX12_rule_10 (by decide) (fun c8 => ?_) (fun c8 => ?_)
    · exact mm_eqN c8.symm mm_k0 mm_k1 (by decide)
    · refine lv_iload_n hx hb dX12_rule_13 rfl (lv_at hl 2 rfl) ?_
      obtain ⟨v9, ev9⟩ : ∃ y : Int64, y = i_1.toInt64 := ⟨_, rfl⟩
      refine lv_i2l hx hb dX12_rule_14 ev9.symm ?_
      have rv9 : mm_rl v9 (-2147483648) 2147483647 := mm_i2l ev9 (mm_top i_1)
      refine lv_lconst (v := 0) hx hb dX12_rule_15 (by decide) ?_
      refine lv_aload_n hx hb dX12_rule_16 rfl (lv_at hl 0 rfl) ?_
      refine va_get (D := G) (ci := 12) (v := .ref a_9) (C := RX12) (T := TX12) (N := 38) hx hb hts (mm_i inlX12) hown hK.1 hP 0 rfl rfl 19 (by decide) (mm_h hts mm_w151) (fun _ h9 => h9) rfl dX12_rule_17 ?_
      refine lv_iload_n hx hb dX12_rule_20 rfl (lv_at hl 1 rfl) ?_
      refine va_iald hx hb hK.1 hP 3 1 rfl rfl (mm_in w2 (by decide)) dX12_rule_21 ?_
      refine lv_topi (fun v10 ev10 => ?_)
      have rv10 : mm_rg v10 0 7 := mm_eqv ev10 (h35 _)
      obtain ⟨v11, ev11⟩ : ∃ y : Int64, y = v10.toInt64 := ⟨_, rfl⟩
      refine lv_i2l hx hb dX12_rule_22 ev11.symm ?_
      have rv11 : mm_rl v11 0 7 := mm_i2l ev11 rv10
      refine lv_lconst (v := 1) hx hb dX12_rule_23 (by decide) ?_
      refine lv_lsub hx hb dX12_rule_24 ?_
      refine lv_topl (fun v12 ev12 => ?_)
      have rv12 : mm_rl v12 (-1) 6 := mm_subl ev12 rv11 mm_kl1 (by decide) (by decide)
      have tv12 := mm_sublEc ev12 rv11 mm_kl1 (by decide) (k := 1) (by decide)
      refine mm_finir (va_runS (As := [.long v9, .long 0, .long v12]) (rest := []) ⟨hx, hb, hml, hown, hts⟩ (M7_X12_in l G cy H.size v9 v12 ) (va_cwS 3 hts (mm_gS mm_w191 mm_w192 mm_w5 mm_w193) rfl rfl rfl hs_X12_in ⟨by rw [hRf]; exact Nat.le_of_ble_eq_true rfl, by rw [hRl]; exact Nat.le_of_ble_eq_true rfl⟩) (mm_preS hK hZ hS hA hP hD [] rfl rfl) rfl rfl hl.1 rfl (lv_room (Nat.le_of_ble_eq_true rfl)) dX12_rule_25 ⟨by rw [hRc]; exact Nat.le_of_ble_eq_true rfl, by rw [hRs]; exact Nat.le_of_ble_eq_true rfl⟩) hP hD hS hA [] rfl (fun _ => rfl) ?_
      clear hP hD hS
      clear H locs
      intro v13 _u H locs hw hP hD hS
      rcases hw with ⟨rfl, w14⟩ | ⟨rfl, w15, w16, w17, w18⟩
      · refine lv_if_eq (tgt := 58) hx hb dX12_rule_28 (by decide) (fun c19 => ?_) (fun c19 => ?_)
        · refine lv_bipush (v := (-2)) hx hb dX12_rule_58 (by decide) ?_
          subst hAe
          rw [hQ]
          exact W.iret (v := (-2)) hx hb hr (fun t ht hW => ⟨⟨(-2), (), rfl, (mm_wk mm_km2 (by decide)), by rw [ht]; exact hP, hK.warm hW, hD⟩, hS.F ht⟩) hS.2.2 dX12_rule_60
        · have q20 := mm_neL (lo := 1) (mm_ne c19) mm_k0 mm_k0 (by decide) (by decide)
          exact mm_no q20 (by decide)
      · have q21 := mm_meetl (lo := 0) (hi := 2147483647) w15 rv9 (by decide)
        have q22 := mm_meet (lo := 0) (hi := 2147483647) (mm_l2x ev9 q21) (mm_top i_1) (by decide)
        have q23 := mm_meetl (lo := 0) (hi := 6) w16 rv12 (by decide)
        have q24 := mm_leLl w17 q21 q23
        have q25 := mm_meet (lo := 0) (hi := 6) (mm_l2x ev9 q24) q22 (by decide)
        have w26 : (i_1 : Int32).toInt < (v10 : Int32).toInt := by have := (mm_i2lE ev9); have := (mm_i2lE ev11); have := tv12; have := w17; omega
        have q27 := mm_ltR (lo := 1) w26 q25 rv10 (by decide)
        refine lv_if_eq (tgt := 58) hx hb dX12_rule_28 (by decide) (fun c28 => ?_) (fun c28 => ?_)
        · exact mm_eqN c28.symm mm_k0 mm_k1 (by decide)
        · refine lv_aload_n hx hb dX12_rule_31 rfl (lv_at hl 0 rfl) ?_
          refine lv_iload_n hx hb dX12_rule_32 rfl (lv_at hl 3 rfl) ?_
          refine mm_finir (va_runV (As := [.int i_2]) (rest := []) ⟨hx, hb, hml, hown, hts⟩ (M101_X12_isWord l G cy H.size a_0 i_2 0 a_1 a_2 a_3 a_4 a_5 i_4 i_5 i_6 i_7 i_8 j_0 i_9 i_10 i_11 i_12 a_6 a_7 a_8 a_9 a_10 a_11 a_12 a_13 a_14 a_15 a_16 a_17 a_18 i_13 i_14 i_15 i_16 i_17 i_18 a_19 i_19 a_20 i_20 i_21 i_22 i_23 i_24 i_25 i_26 i_27 i_28 i_29 i_30 i_31 i_32 i_33 i_34 i_35 i_36 i_37 i_38 i_39 i_40 i_41 i_42 i_43 i_44 i_45 i_46 i_47 i_48 i_49 i_50 i_51 i_52 i_53 i_54 (mm_wk q7 (by decide)) h1 h2 h3 h4 h5 h6 h7 (mm_wk q6 (by decide)) h9 h10 h11 h12 h13 h14 h15 h16 h17 h18 h19 h20 h21 h22 h23 h24 h25 h26 h27 h28 h29 h30 h31 h32 h33 h34 h38 h40 h42 h44) (cwV 1 hts (mm_gV mm_w645 mm_w646 mm_w647 mm_w5 mm_w648) rfl rfl rfl hd_X12_isWord ⟨by rw [hRf]; exact Nat.le_of_ble_eq_true rfl, by rw [hRl]; exact Nat.le_of_ble_eq_true rfl⟩) (mm_preV hK hZ hS hA hP hD [0, 1, 2] rfl rfl 0 rfl rfl rfl) rfl rfl hl.1 rfl (lv_room (Nat.le_of_ble_eq_true rfl)) dX12_rule_33 ⟨by rw [hRc]; exact Nat.le_of_ble_eq_true rfl, by rw [hRs]; exact Nat.le_of_ble_eq_true rfl⟩) hP hD hS hA [0, 1, 2] rfl (fun _ => rfl) ?_
          clear hP hD hS
          clear H locs
          intro v29 _u H locs hw hP hD hS
          rcases hw with rfl | ⟨rfl, w30⟩
          · refine lv_if_eq (tgt := 58) hx hb dX12_rule_36 (by decide) (fun c31 => ?_) (fun c31 => ?_)
            · refine lv_bipush (v := (-2)) hx hb dX12_rule_58 (by decide) ?_
              subst hAe
              rw [hQ]
              exact W.iret (v := (-2)) hx hb hr (fun t ht hW => ⟨⟨(-2), (), rfl, (mm_wk mm_km2 (by decide)), by rw [ht]; exact hP, hK.warm hW, hD⟩, hS.F ht⟩) hS.2.2 dX12_rule_60
            · have q32 := mm_neL (lo := 1) (mm_ne c31) mm_k0 mm_k0 (by decide) (by decide)
              exact mm_no q32 (by decide)
          · refine lv_if_eq (tgt := 58) hx hb dX12_rule_36 (by decide) (fun c33 => ?_) (fun c33 => ?_)
            · exact mm_eqN c33.symm mm_k0 mm_k1 (by decide)
            · refine lv_aload_n hx hb dX12_rule_39 rfl (lv_at hl 0 rfl) ?_
              refine va_get (D := G) (ci := 12) (v := .ref a_10) (C := RX12) (T := TX12) (N := 38) hx hb hts (mm_i inlX12) hown hK.1 hP 0 rfl rfl 20 (by decide) (mm_h hts mm_w152) (fun _ h9 => h9) rfl dX12_rule_40 ?_
              refine lv_bipush (v := 10) hx hb dX12_rule_43 (by decide) ?_
              refine lv_bipush (v := 7) hx hb dX12_rule_45 (by decide) ?_
              refine lv_iload_n hx hb dX12_rule_47 rfl (lv_at hl 1 rfl) ?_
              refine lv_imul hx hb dX12_rule_48 ?_
              refine lv_topi (fun v34 ev34 => ?_)
              have rv34 : mm_rg v34 0 14 := mm_mul ev34 mm_k7 w2 (by decide) (by decide)
              have tv34 := mm_mulEc ev34 mm_k7 w2 (by decide) (k := 7) (by decide)
              refine lv_iload_n hx hb dX12_rule_49 rfl (lv_at hl 2 rfl) ?_
              refine lv_iadd hx hb dX12_rule_50 ?_
              refine lv_topi (fun v35 ev35 => ?_)
              have rv35 : mm_rg v35 0 20 := mm_add ev35 rv34 q25 (by decide) (by decide)
              have tv35 := mm_addE ev35 rv34 q25 (by decide)
              refine lv_imul hx hb dX12_rule_51 ?_
              refine lv_topi (fun v36 ev36 => ?_)
              have rv36 : mm_rg v36 0 200 := mm_mul ev36 mm_k10 rv35 (by decide) (by decide)
              have tv36 := mm_mulEc ev36 mm_k10 rv35 (by decide) (k := 10) (by decide)
              refine lv_iload_n hx hb dX12_rule_52 rfl (lv_at hl 3 rfl) ?_
              refine lv_iadd hx hb dX12_rule_53 ?_
              refine lv_topi (fun v37 ev37 => ?_)
              have rv37 : mm_rg v37 0 209 := mm_add ev37 rv36 w30 (by decide) (by decide)
              have tv37 := mm_addE ev37 rv36 w30 (by decide)
              refine va_iald hx hb hK.1 hP 4 1 rfl rfl (mm_in rv37 (by decide)) dX12_rule_54 ?_
              refine lv_topi (fun v38 ev38 => ?_)
              have rv38 : mm_rg v38 0 9 := mm_eqv ev38 (h36 _)
              refine lv_goto (tgt := 60) hx hb dX12_rule_55 (by decide) ?_
              subst hAe
              rw [hQ]
              exact W.iret (v := v38) hx hb hr (fun t ht hW => ⟨⟨v38, (), rfl, (mm_wk rv38 (by decide)), by rw [ht]; exact hP, hK.warm hW, hD⟩, hS.F ht⟩) hS.2.2 dX12_rule_60

set_option maxHeartbeats 4000000 in
set_option maxRecDepth 100000 in
theorem M103_X12_turnOf (l : Launch) (G : va_G) (cy : Nat → ClassId) (sz : Nat) (a_0 : Nat) (i_0 : Int32) (i_1 : Int32) (i_2 : Int32) (a_1 : Nat) (a_2 : Nat) (a_3 : Nat) (a_4 : Nat) (a_5 : Nat) (i_3 : Int32) (i_4 : Int32) (i_5 : Int32) (i_6 : Int32) (i_7 : Int32) (j_0 : Int64) (i_8 : Int32) (i_9 : Int32) (i_10 : Int32) (i_11 : Int32) (a_6 : Nat) (a_7 : Nat) (a_8 : Nat) (a_9 : Nat) (a_10 : Nat) (a_11 : Nat) (a_12 : Nat) (a_13 : Nat) (a_14 : Nat) (a_15 : Nat) (a_16 : Nat) (a_17 : Nat) (a_18 : Nat) (i_12 : Int32) (i_13 : Int32) (i_14 : Int32) (i_15 : Int32) (i_16 : Int32) (i_17 : Int32) (a_19 : Nat) (i_18 : Int32) (a_20 : Nat) (f_0 : Nat → Int32) (f_1 : Nat → Int32) (h0 : mm_rg i_0 0 2) (h1 : mm_rg i_1 0 9) (h2 : mm_ar f_0 0 7) (h3 : mm_ar f_1 0 9)  : mm_CI l yX12_turnOf (mm_ws yX12_turnOf cX12_turnOf 5 (some .int)) ({ frames := 0, cells := 0, slots := 0, locals := 0 } : Room) G cy sz [(a_0, .inr (12, [.int i_2, .ref a_1, .ref a_2, .ref a_3, .ref a_4, .ref a_5, .int i_3, .int i_4, .int i_5, .int i_6, .int i_7, .long j_0, .int i_8, .int i_9, .int i_10, .int i_11, .ref a_6, .ref a_7, .ref a_8, .ref a_9, .ref a_10, .ref a_11, .ref a_12, .ref a_13, .ref a_14, .ref a_15, .ref a_16, .ref a_17, .ref a_18, .int i_12, .int i_13, .int i_14, .int i_15, .int i_16, .int i_17, .ref a_19, .int i_18, .ref a_20])), (a_9, .inl (cy 1, 15, .inl f_0)), (a_10, .inl (cy 1, 1050, .inl f_1))] [.ref a_0, .int i_0, .int i_1] (fun u : Unit => [(a_0, .inr (12, [.int i_2, .ref a_1, .ref a_2, .ref a_3, .ref a_4, .ref a_5, .int i_3, .int i_4, .int i_5, .int i_6, .int i_7, .long j_0, .int i_8, .int i_9, .int i_10, .int i_11, .ref a_6, .ref a_7, .ref a_8, .ref a_9, .ref a_10, .ref a_11, .ref a_12, .ref a_13, .ref a_14, .ref a_15, .ref a_16, .ref a_17, .ref a_18, .int i_12, .int i_13, .int i_14, .int i_15, .int i_16, .int i_17, .ref a_19, .int i_18, .ref a_20])), (a_9, .inl (cy 1, 15, .inl f_0)), (a_10, .inl (cy 1, 1050, .inl f_1))]) (fun (r : Int32) (u : Unit) => mm_rg r 0 9) 0 0 := by
  refine mm_begin (lv := [(0, .ref a_0), (1, .int i_0), (2, .int i_1)]) (by decide) (Nat.le_of_ble_eq_true rfl) rfl ?_
  intro p e s m below meth c A ls R args Q H locs hRe hQ hAe hx hb hr hlocks hml hown hnm hts hsz hA hS hP hK hD hZ hl
  have hRf : R.frames = 0 := by rw [hRe]
  have hRl : R.locals = 0 := by rw [hRe]
  have hRc : R.cells = 0 := by rw [hRe]
  have hRs : R.slots = 0 := by rw [hRe]
  refine lv_iload_n hx hb dX12_turnOf_0 rfl (lv_at hl 2 rfl) ?_
  refine lv_istore_n (lv' := [(3, .int i_1), (0, .ref a_0), (1, .int i_0), (2, .int i_1)]) hx hb dX12_turnOf_1 rfl hl (by decide) rfl ?_
  clear hl
  clear ls
  intro ls hl
  refine lv_aload_n hx hb dX12_turnOf_2 rfl (lv_at hl 1 rfl) ?_
  refine va_get (D := G) (ci := 12) (v := .ref a_9) (C := RX12) (T := TX12) (N := 38) hx hb hts (mm_i inlX12) hown hK.1 hP 0 rfl rfl 19 (by decide) (mm_h hts mm_w151) (fun _ h9 => h9) rfl dX12_turnOf_3 ?_
  refine lv_iload_n hx hb dX12_turnOf_6 rfl (lv_at hl 2 rfl) ?_
  refine va_iald hx hb hK.1 hP 1 1 rfl rfl (mm_in h0 (by decide)) dX12_turnOf_7 ?_
  refine lv_topi (fun v1 ev1 => ?_)
  have rv1 : mm_rg v1 0 7 := mm_eqv ev1 (h2 _)
  refine lv_iconst (v := 1) hx hb dX12_turnOf_8 (by decide) ?_
  refine lv_isub hx hb dX12_turnOf_9 ?_
  refine lv_topi (fun v2 ev2 => ?_)
  have rv2 : mm_rg v2 (-1) 6 := mm_sub ev2 rv1 mm_k1 (by decide) (by decide)
  have tv2 := mm_subEc ev2 rv1 mm_k1 (by decide) (k := (-1)) (by decide)
  refine lv_istore (lv' := [(4, .int v2), (3, .int i_1), (0, .ref a_0), (1, .int i_0), (2, .int i_1)]) hx hb dX12_turnOf_10 hl (by decide) rfl ?_
  clear hl
  clear ls
  intro ls hl
  have L12_24 : ∀ (n : Nat) (x12_4_23 : Int32) (x12_3_24 : Int32), mm_rg x12_4_23 (-1) 6 → mm_rg x12_3_24 0 9 → (x12_4_23.toInt - (-1)).toNat < n → ∀ (H : Heap) (locs : List Loc), va_P G vwCl [(a_0, .inr (12, [.int i_2, .ref a_1, .ref a_2, .ref a_3, .ref a_4, .ref a_5, .int i_3, .int i_4, .int i_5, .int i_6, .int i_7, .long j_0, .int i_8, .int i_9, .int i_10, .int i_11, .ref a_6, .ref a_7, .ref a_8, .ref a_9, .ref a_10, .ref a_11, .ref a_12, .ref a_13, .ref a_14, .ref a_15, .ref a_16, .ref a_17, .ref a_18, .int i_12, .int i_13, .int i_14, .int i_15, .int i_16, .int i_17, .ref a_19, .int i_18, .ref a_20])), (a_9, .inl (cy 1, 15, .inl f_0)), (a_10, .inl (cy 1, 1050, .inl f_1))] H → va_D A [(a_0, .inr (12, [.int i_2, .ref a_1, .ref a_2, .ref a_3, .ref a_4, .ref a_5, .int i_3, .int i_4, .int i_5, .int i_6, .int i_7, .long j_0, .int i_8, .int i_9, .int i_10, .int i_11, .ref a_6, .ref a_7, .ref a_8, .ref a_9, .ref a_10, .ref a_11, .ref a_12, .ref a_13, .ref a_14, .ref a_15, .ref a_16, .ref a_17, .ref a_18, .int i_12, .int i_13, .int i_14, .int i_15, .int i_16, .int i_17, .ref a_19, .int i_18, .ref a_20])), (a_9, .inl (cy 1, 15, .inl f_0)), (a_10, .inl (cy 1, 1050, .inl f_1))] → va_S A s.heap H locs → ∀ (ls : Array Slot), lv_has ls 5 [(4, .int x12_4_23), (3, .int x12_3_24), (0, .ref a_0), (1, .int i_0), (2, .int i_1)] → W p l e R s m args below meth c H locs 0 0 Q (F0 m 12 ls []) := by
    intro n
    induction n with
    | zero => intro x12_4_23 x12_3_24 rx12_4_23 rx12_3_24 hm; exact absurd hm (Nat.not_lt_zero _)
    | succ n ih12 =>
      intro x12_4_23 x12_3_24 rx12_4_23 rx12_3_24 hm12 H locs hP hD hS ls hl
      refine lv_iload hx hb dX12_turnOf_12 (lv_at hl 0 rfl) ?_
      refine lv_if_lt (tgt := 41) hx hb dX12_turnOf_14 (by decide) (fun c26 => ?_) (fun c26 => ?_)
      · have q27 := mm_ltL (h := (-1)) (mm_lt c26) rx12_4_23 mm_k0 (by decide)
        refine lv_iload_n hx hb dX12_turnOf_41 rfl (lv_at hl 1 rfl) ?_
        subst hAe
        rw [hQ]
        exact W.iret (v := x12_3_24) hx hb hr (fun t ht hW => ⟨⟨x12_3_24, (), rfl, rx12_3_24, by rw [ht]; exact hP, hK.warm hW, hD⟩, hS.F ht⟩) hS.2.2 dX12_turnOf_42
      · have q28 := mm_leR (mm_nlt c26) mm_k0 rx12_4_23
        refine lv_aload_n hx hb dX12_turnOf_17 rfl (lv_at hl 2 rfl) ?_
        refine va_get (D := G) (ci := 12) (v := .ref a_10) (C := RX12) (T := TX12) (N := 38) hx hb hts (mm_i inlX12) hown hK.1 hP 0 rfl rfl 20 (by decide) (mm_h hts mm_w152) (fun _ h9 => h9) rfl dX12_turnOf_18 ?_
        refine lv_bipush (v := 10) hx hb dX12_turnOf_21 (by decide) ?_
        refine lv_bipush (v := 7) hx hb dX12_turnOf_23 (by decide) ?_
        refine lv_iload_n hx hb dX12_turnOf_25 rfl (lv_at hl 3 rfl) ?_
        refine lv_imul hx hb dX12_turnOf_26 ?_
        refine lv_topi (fun v29 ev29 => ?_)
        have rv29 : mm_rg v29 0 14 := mm_mul ev29 mm_k7 h0 (by decide) (by decide)
        have tv29 := mm_mulEc ev29 mm_k7 h0 (by decide) (k := 7) (by decide)
        refine lv_iload hx hb dX12_turnOf_27 (lv_at hl 0 rfl) ?_
        refine lv_iadd hx hb dX12_turnOf_29 ?_
        refine lv_topi (fun v30 ev30 => ?_)
        have rv30 : mm_rg v30 0 20 := mm_add ev30 rv29 q28 (by decide) (by decide)
        have tv30 := mm_addE ev30 rv29 q28 (by decide)
        refine lv_imul hx hb dX12_turnOf_30 ?_
        refine lv_topi (fun v31 ev31 => ?_)
        have rv31 : mm_rg v31 0 200 := mm_mul ev31 mm_k10 rv30 (by decide) (by decide)
        have tv31 := mm_mulEc ev31 mm_k10 rv30 (by decide) (k := 10) (by decide)
        refine lv_iload_n hx hb dX12_turnOf_31 rfl (lv_at hl 1 rfl) ?_
        refine lv_iadd hx hb dX12_turnOf_32 ?_
        refine lv_topi (fun v32 ev32 => ?_)
        have rv32 : mm_rg v32 0 209 := mm_add ev32 rv31 rx12_3_24 (by decide) (by decide)
        have tv32 := mm_addE ev32 rv31 rx12_3_24 (by decide)
        refine va_iald hx hb hK.1 hP 2 1 rfl rfl (mm_in rv32 (by decide)) dX12_turnOf_33 ?_
        refine lv_topi (fun v33 ev33 => ?_)
        have rv33 : mm_rg v33 0 9 := mm_eqv ev33 (h3 _)
        refine lv_istore_n (lv' := [(3, .int v33), (4, .int x12_4_23), (0, .ref a_0), (1, .int i_0), (2, .int i_1)]) hx hb dX12_turnOf_34 rfl hl (by decide) rfl ?_
        clear hl
        clear ls
        intro ls hl
        obtain ⟨v34, ev34⟩ : ∃ y : Int32, y = x12_4_23 + (-1) := ⟨_, rfl⟩
        refine lv_iinc (v := v34) (lv' := [(4, .int v34), (3, .int v33), (0, .ref a_0), (1, .int i_0), (2, .int i_1)]) hx hb dX12_turnOf_35 hl (k := 1) rfl (by rw [ev34]; rfl) (by decide) rfl ?_
        clear hl
        clear ls
        intro ls hl
        have rv34 : mm_rg v34 (-1) 5 := mm_add ev34 q28 mm_km1 (by decide) (by decide)
        have tv34 := mm_addEc ev34 q28 mm_km1 (by decide) (k := (-1)) (by decide)
        refine lv_goto (tgt := 12) hx hb dX12_turnOf_38 (by decide) ?_
        exact ih12 v34 v33 (mm_wk rv34 (by decide)) rv33 (mm_md hm12 tv34 (by decide) (rv34).1 (by decide)) H locs hP hD hS ls (lv_sub hl [0, 1, 2, 3, 4] rfl)
  exact L12_24 _ v2 i_1 rv2 h1 (Nat.lt_succ_self _) H locs hP hD hS ls (lv_sub hl [0, 1, 2, 3, 4] rfl)

set_option maxHeartbeats 4000000 in
set_option maxRecDepth 100000 in
theorem M104_X12_fixed (l : Launch) (G : va_G) (cy : Nat → ClassId) (sz : Nat) (a_0 : Nat) (i_0 : Int32) (i_1 : Int32) (a_1 : Nat) (a_2 : Nat) (a_3 : Nat) (a_4 : Nat) (a_5 : Nat) (i_2 : Int32) (i_3 : Int32) (i_4 : Int32) (i_5 : Int32) (i_6 : Int32) (j_0 : Int64) (i_7 : Int32) (i_8 : Int32) (i_9 : Int32) (i_10 : Int32) (a_6 : Nat) (a_7 : Nat) (a_8 : Nat) (a_9 : Nat) (a_10 : Nat) (a_11 : Nat) (a_12 : Nat) (a_13 : Nat) (a_14 : Nat) (a_15 : Nat) (a_16 : Nat) (a_17 : Nat) (a_18 : Nat) (i_11 : Int32) (i_12 : Int32) (i_13 : Int32) (i_14 : Int32) (i_15 : Int32) (i_16 : Int32) (a_19 : Nat) (i_17 : Int32) (a_20 : Nat) (i_18 : Int32) (i_19 : Int32) (i_20 : Int32) (i_21 : Int32) (i_22 : Int32) (i_23 : Int32) (i_24 : Int32) (i_25 : Int32) (i_26 : Int32) (i_27 : Int32) (i_28 : Int32) (i_29 : Int32) (i_30 : Int32) (i_31 : Int32) (i_32 : Int32) (i_33 : Int32) (i_34 : Int32) (i_35 : Int32) (i_36 : Int32) (i_37 : Int32) (i_38 : Int32) (i_39 : Int32) (i_40 : Int32) (i_41 : Int32) (i_42 : Int32) (i_43 : Int32) (i_44 : Int32) (i_45 : Int32) (i_46 : Int32) (i_47 : Int32) (i_48 : Int32) (i_49 : Int32) (i_50 : Int32) (i_51 : Int32) (i_52 : Int32) (f_0 : Nat → Int32) (f_1 : Nat → Int32) (h0 : mm_rg i_18 0 601) (h1 : mm_rg i_19 0 601) (h2 : mm_rg i_20 0 601) (h3 : mm_rg i_21 0 601) (h4 : mm_rg i_22 0 601) (h5 : mm_rg i_23 0 10) (h6 : mm_rg i_24 0 99) (h7 : mm_rg i_25 0 9) (h8 : mm_rg i_26 0 3) (h9 : mm_rg i_27 0 6) (h10 : mm_rg i_28 0 30) (h11 : mm_rg i_29 0 10) (h12 : mm_rg i_30 0 99) (h13 : mm_rg i_31 0 9) (h14 : mm_rg i_32 0 3) (h15 : mm_rg i_33 0 6) (h16 : mm_rg i_34 0 30) (h17 : mm_rg i_35 0 10) (h18 : mm_rg i_36 0 99) (h19 : mm_rg i_37 0 9) (h20 : mm_rg i_38 0 3) (h21 : mm_rg i_39 0 6) (h22 : mm_rg i_40 0 30) (h23 : mm_rg i_41 0 10) (h24 : mm_rg i_42 0 99) (h25 : mm_rg i_43 0 9) (h26 : mm_rg i_44 0 3) (h27 : mm_rg i_45 0 6) (h28 : mm_rg i_46 0 30) (h29 : mm_rg i_47 0 10) (h30 : mm_rg i_48 0 99) (h31 : mm_rg i_49 0 9) (h32 : mm_rg i_50 0 3) (h33 : mm_rg i_51 0 6) (h34 : mm_rg i_52 0 30) (h35 : mm_ar f_0 0 7) (h36 : mm_ar f_1 0 9) (h37 : mm_rls f_0 f_1 0 i_25 i_26) (h38 : mm_tl i_18 i_26 i_27) (h39 : mm_rls f_0 f_1 1 i_31 i_32) (h40 : mm_tl i_19 i_32 i_33) (h41 : mm_rls f_0 f_1 2 i_37 i_38) (h42 : mm_tl i_20 i_38 i_39) (h43 : mm_rls f_0 f_1 3 i_43 i_44) (h44 : mm_tl i_21 i_44 i_45)  : mm_CI l yX12_fixed (mm_ws yX12_fixed cX12_fixed 4 (some .int)) ({ frames := 2, cells := 0, slots := 0, locals := 46 } : Room) G cy sz [(a_0, .inr (12, [.int i_1, .ref a_1, .ref a_2, .ref a_3, .ref a_4, .ref a_5, .int i_2, .int i_3, .int i_4, .int i_5, .int i_6, .long j_0, .int i_7, .int i_8, .int i_9, .int i_10, .ref a_6, .ref a_7, .ref a_8, .ref a_9, .ref a_10, .ref a_11, .ref a_12, .ref a_13, .ref a_14, .ref a_15, .ref a_16, .ref a_17, .ref a_18, .int i_11, .int i_12, .int i_13, .int i_14, .int i_15, .int i_16, .ref a_19, .int i_17, .ref a_20])), (a_6, .inl (cy 1, 5, .inl (mm_g [i_18, i_19, i_20, i_21, i_22]))), (a_7, .inl (cy 1, 30, .inl (mm_g [i_23, i_24, i_25, i_26, i_27, i_28, i_29, i_30, i_31, i_32, i_33, i_34, i_35, i_36, i_37, i_38, i_39, i_40, i_41, i_42, i_43, i_44, i_45, i_46, i_47, i_48, i_49, i_50, i_51, i_52]))), (a_9, .inl (cy 1, 15, .inl f_0)), (a_10, .inl (cy 1, 1050, .inl f_1))] [.ref a_0, .int i_0] (fun u : Unit => [(a_0, .inr (12, [.int 0, .ref a_1, .ref a_2, .ref a_3, .ref a_4, .ref a_5, .int i_2, .int i_3, .int i_4, .int i_5, .int i_6, .long j_0, .int i_7, .int i_8, .int i_9, .int i_10, .ref a_6, .ref a_7, .ref a_8, .ref a_9, .ref a_10, .ref a_11, .ref a_12, .ref a_13, .ref a_14, .ref a_15, .ref a_16, .ref a_17, .ref a_18, .int i_11, .int i_12, .int i_13, .int i_14, .int i_15, .int i_16, .ref a_19, .int i_17, .ref a_20])), (a_6, .inl (cy 1, 5, .inl (mm_g [i_18, i_19, i_20, i_21, i_22]))), (a_7, .inl (cy 1, 30, .inl (mm_g [i_23, i_24, i_25, i_26, i_27, i_28, i_29, i_30, i_31, i_32, i_33, i_34, i_35, i_36, i_37, i_38, i_39, i_40, i_41, i_42, i_43, i_44, i_45, i_46, i_47, i_48, i_49, i_50, i_51, i_52]))), (a_9, .inl (cy 1, 15, .inl f_0)), (a_10, .inl (cy 1, 1050, .inl f_1))]) (fun (r : Int32) (u : Unit) => mm_rg r (-2) 2147483647) 0 0 := by
  refine mm_begin (lv := [(0, .ref a_0), (1, .int i_0)]) (by decide) (Nat.le_of_ble_eq_true rfl) rfl ?_
  intro p e s m below meth c A ls R args Q H locs hRe hQ hAe hx hb hr hlocks hml hown hnm hts hsz hA hS hP hK hD hZ hl
  have hRf : R.frames = 2 := by rw [hRe]
  have hRl : R.locals = 46 := by rw [hRe]
  have hRc : R.cells = 0 := by rw [hRe]
  have hRs : R.slots = 0 := by rw [hRe]
  refine lv_aload_n hx hb dX12_fixed_0 rfl (lv_at hl 0 rfl) ?_
  refine lv_iconst (v := 0) hx hb dX12_fixed_1 (by decide) ?_
  refine va_put (D := G) (ci := 12) (v := .int 0) (ty := tyX12 0) (C := RX12) (T := TX12) (N := 38) hx hb hts (mm_i inlX12) tyX12 tyX12_ok nmX12 hown hK.1 hP hD hS 0 rfl rfl 0 (by decide) (mm_h hts mm_w177) (fun _ h9 => h9) rfl (tyX12_ok 0 (by decide)) rfl rfl (Nat.le_of_ble_eq_true rfl) dX12_fixed_2 ?_
  clear hP hD hS
  clear H locs
  intro H locs (hP : va_P G vwCl [(a_0, .inr (12, [.int 0, .ref a_1, .ref a_2, .ref a_3, .ref a_4, .ref a_5, .int i_2, .int i_3, .int i_4, .int i_5, .int i_6, .long j_0, .int i_7, .int i_8, .int i_9, .int i_10, .ref a_6, .ref a_7, .ref a_8, .ref a_9, .ref a_10, .ref a_11, .ref a_12, .ref a_13, .ref a_14, .ref a_15, .ref a_16, .ref a_17, .ref a_18, .int i_11, .int i_12, .int i_13, .int i_14, .int i_15, .int i_16, .ref a_19, .int i_17, .ref a_20])), (a_6, .inl (cy 1, 5, .inl (mm_g [i_18, i_19, i_20, i_21, i_22]))), (a_7, .inl (cy 1, 30, .inl (mm_g [i_23, i_24, i_25, i_26, i_27, i_28, i_29, i_30, i_31, i_32, i_33, i_34, i_35, i_36, i_37, i_38, i_39, i_40, i_41, i_42, i_43, i_44, i_45, i_46, i_47, i_48, i_49, i_50, i_51, i_52]))), (a_9, .inl (cy 1, 15, .inl f_0)), (a_10, .inl (cy 1, 1050, .inl f_1))] H) (hD : va_D A [(a_0, .inr (12, [.int 0, .ref a_1, .ref a_2, .ref a_3, .ref a_4, .ref a_5, .int i_2, .int i_3, .int i_4, .int i_5, .int i_6, .long j_0, .int i_7, .int i_8, .int i_9, .int i_10, .ref a_6, .ref a_7, .ref a_8, .ref a_9, .ref a_10, .ref a_11, .ref a_12, .ref a_13, .ref a_14, .ref a_15, .ref a_16, .ref a_17, .ref a_18, .int i_11, .int i_12, .int i_13, .int i_14, .int i_15, .int i_16, .ref a_19, .int i_17, .ref a_20])), (a_6, .inl (cy 1, 5, .inl (mm_g [i_18, i_19, i_20, i_21, i_22]))), (a_7, .inl (cy 1, 30, .inl (mm_g [i_23, i_24, i_25, i_26, i_27, i_28, i_29, i_30, i_31, i_32, i_33, i_34, i_35, i_36, i_37, i_38, i_39, i_40, i_41, i_42, i_43, i_44, i_45, i_46, i_47, i_48, i_49, i_50, i_51, i_52]))), (a_9, .inl (cy 1, 15, .inl f_0)), (a_10, .inl (cy 1, 1050, .inl f_1))]) hS
  refine lv_aload_n hx hb dX12_fixed_5 rfl (lv_at hl 0 rfl) ?_
  refine lv_iload_n hx hb dX12_fixed_6 rfl (lv_at hl 1 rfl) ?_
  refine mm_finir (va_runV (As := [.int i_0]) (rest := []) ⟨hx, hb, hml, hown, hts⟩ (M98_X12_isLand l G cy H.size a_0 i_0 0 a_1 a_2 a_3 a_4 a_5 i_2 i_3 i_4 i_5 i_6 j_0 i_7 i_8 i_9 i_10 a_6 a_7 a_8 a_9 a_10 a_11 a_12 a_13 a_14 a_15 a_16 a_17 a_18 i_11 i_12 i_13 i_14 i_15 i_16 a_19 i_17 a_20 i_23 i_24 i_25 i_26 i_27 i_28 i_29 i_30 i_31 i_32 i_33 i_34 i_35 i_36 i_37 i_38 i_39 i_40 i_41 i_42 i_43 i_44 i_45 i_46 i_47 i_48 i_49 i_50 i_51 i_52 h5 h6 h7 h8 h9 h10 h11 h12 h13 h14 h15 h16 h17 h18 h19 h20 h21 h22 h23 h24 h25 h26 h27 h28 h29 h30 h31 h32 h33 h34) (cwV 1 hts (mm_gV mm_w641 mm_w642 mm_w643 mm_w5 mm_w644) rfl rfl rfl hd_X12_isLand ⟨by rw [hRf]; exact Nat.le_of_ble_eq_true rfl, by rw [hRl]; exact Nat.le_of_ble_eq_true rfl⟩) (mm_preV hK hZ hS hA hP hD [0, 2] rfl rfl 0 rfl rfl rfl) rfl rfl hl.1 rfl (lv_room (Nat.le_of_ble_eq_true rfl)) dX12_fixed_7 ⟨by rw [hRc]; exact Nat.le_of_ble_eq_true rfl, by rw [hRs]; exact Nat.le_of_ble_eq_true rfl⟩) hP hD hS hA [0, 2] rfl (fun _ => rfl) ?_
  clear hP hD hS
  clear H locs
  intro v1 _u H locs hw hP hD hS
  rcases hw with rfl | ⟨rfl, w2, w3⟩
  · refine lv_if_ne (tgt := 16) hx hb dX12_fixed_10 (by decide) (fun c4 => ?_) (fun c4 => ?_)
    · have q5 := mm_neL (lo := 1) (mm_ne c4) mm_k0 mm_k0 (by decide) (by decide)
      exact mm_no q5 (by decide)
    · refine lv_bipush (v := (-2)) hx hb dX12_fixed_13 (by decide) ?_
      subst hAe
      rw [hQ]
      exact W.iret (v := (-2)) hx hb hr (fun t ht hW => ⟨⟨(-2), (), rfl, (mm_wk mm_km2 (by decide)), by rw [ht]; exact hP, hK.warm hW, hD⟩, hS.F ht⟩) hS.2.2 dX12_fixed_15
  · have q6 := mm_ltR (lo := 1) w3 w2 h8 (by decide)
    have q7 : mm_rg i_18 1 601 := mm_tl_3 h38 q6 h0 (by decide)
    refine lv_if_ne (tgt := 16) hx hb dX12_fixed_10 (by decide) (fun c8 => ?_) (fun c8 => ?_)
    · refine lv_iconst (v := 0) hx hb dX12_fixed_16 (by decide) ?_
      refine lv_istore_n (lv' := [(2, .int 0), (0, .ref a_0), (1, .int i_0)]) hx hb dX12_fixed_17 rfl hl (by decide) rfl ?_
      clear hl
      clear ls
      intro ls hl
      refine lv_iconst (v := 0) hx hb dX12_fixed_18 (by decide) ?_
      refine lv_istore_n (lv' := [(3, .int 0), (2, .int 0), (0, .ref a_0), (1, .int i_0)]) hx hb dX12_fixed_19 rfl hl (by decide) rfl ?_
      clear hl
      clear ls
      intro ls hl
      have L20_202 : ∀ (n : Nat) (x20_3_201 : Int32) (x20_2_202 : Int32), mm_rg x20_3_201 0 10 → mm_rg x20_2_202 0 2147483647 → (10 - x20_3_201.toInt).toNat < n → ∀ (H : Heap) (locs : List Loc), va_P G vwCl [(a_0, .inr (12, [.int 0, .ref a_1, .ref a_2, .ref a_3, .ref a_4, .ref a_5, .int i_2, .int i_3, .int i_4, .int i_5, .int i_6, .long j_0, .int i_7, .int i_8, .int i_9, .int i_10, .ref a_6, .ref a_7, .ref a_8, .ref a_9, .ref a_10, .ref a_11, .ref a_12, .ref a_13, .ref a_14, .ref a_15, .ref a_16, .ref a_17, .ref a_18, .int i_11, .int i_12, .int i_13, .int i_14, .int i_15, .int i_16, .ref a_19, .int i_17, .ref a_20])), (a_6, .inl (cy 1, 5, .inl (mm_g [i_18, i_19, i_20, i_21, i_22]))), (a_7, .inl (cy 1, 30, .inl (mm_g [i_23, i_24, i_25, i_26, i_27, i_28, i_29, i_30, i_31, i_32, i_33, i_34, i_35, i_36, i_37, i_38, i_39, i_40, i_41, i_42, i_43, i_44, i_45, i_46, i_47, i_48, i_49, i_50, i_51, i_52]))), (a_9, .inl (cy 1, 15, .inl f_0)), (a_10, .inl (cy 1, 1050, .inl f_1))] H → va_D A [(a_0, .inr (12, [.int 0, .ref a_1, .ref a_2, .ref a_3, .ref a_4, .ref a_5, .int i_2, .int i_3, .int i_4, .int i_5, .int i_6, .long j_0, .int i_7, .int i_8, .int i_9, .int i_10, .ref a_6, .ref a_7, .ref a_8, .ref a_9, .ref a_10, .ref a_11, .ref a_12, .ref a_13, .ref a_14, .ref a_15, .ref a_16, .ref a_17, .ref a_18, .int i_11, .int i_12, .int i_13, .int i_14, .int i_15, .int i_16, .ref a_19, .int i_17, .ref a_20])), (a_6, .inl (cy 1, 5, .inl (mm_g [i_18, i_19, i_20, i_21, i_22]))), (a_7, .inl (cy 1, 30, .inl (mm_g [i_23, i_24, i_25, i_26, i_27, i_28, i_29, i_30, i_31, i_32, i_33, i_34, i_35, i_36, i_37, i_38, i_39, i_40, i_41, i_42, i_43, i_44, i_45, i_46, i_47, i_48, i_49, i_50, i_51, i_52]))), (a_9, .inl (cy 1, 15, .inl f_0)), (a_10, .inl (cy 1, 1050, .inl f_1))] → va_S A s.heap H locs → ∀ (ls : Array Slot), lv_has ls 4 [(3, .int x20_3_201), (2, .int x20_2_202), (0, .ref a_0), (1, .int i_0)] → W p l e R s m args below meth c H locs 0 0 Q (F0 m 20 ls []) := by
        intro n
        induction n with
        | zero => intro x20_3_201 x20_2_202 rx20_3_201 rx20_2_202 hm; exact absurd hm (Nat.not_lt_zero _)
        | succ n ih20 =>
          intro x20_3_201 x20_2_202 rx20_3_201 rx20_2_202 hm20 H locs hP hD hS ls hl
          refine lv_iload_n hx hb dX12_fixed_20 rfl (lv_at hl 0 rfl) ?_
          refine lv_aload_n hx hb dX12_fixed_21 rfl (lv_at hl 2 rfl) ?_
          refine mm_finir (va_runV (As := []) (rest := [.int x20_3_201]) ⟨hx, hb, hml, hown, hts⟩ (M100_X12_words l G cy H.size a_0 0 a_1 a_2 a_3 a_4 a_5 i_2 i_3 i_4 i_5 i_6 j_0 i_7 i_8 i_9 i_10 a_6 a_7 a_8 a_9 a_10 a_11 a_12 a_13 a_14 a_15 a_16 a_17 a_18 i_11 i_12 i_13 i_14 i_15 i_16 a_19 i_17 a_20 i_18 i_19 i_20 i_21 i_22 i_23 i_24 i_25 i_26 i_27 i_28 i_29 i_30 i_31 i_32 i_33 i_34 i_35 i_36 i_37 i_38 i_39 i_40 i_41 i_42 i_43 i_44 i_45 i_46 i_47 i_48 i_49 i_50 i_51 i_52 (mm_wk q7 (by decide)) h1 h2 h3 h4 h5 h6 h7 (mm_wk q6 (by decide)) h9 h10 h11 h12 h13 h14 h15 h16 h17 h18 h19 h20 h21 h22 h23 h24 h25 h26 h27 h28 h29 h30 h31 h32 h33 h34 h38 h40 h42 h44) (cwV 0 hts (mm_gV mm_w649 mm_w650 mm_w651 mm_w5 mm_w652) rfl rfl rfl hd_X12_words ⟨by rw [hRf]; exact Nat.le_of_ble_eq_true rfl, by rw [hRl]; exact Nat.le_of_ble_eq_true rfl⟩) (mm_preV hK hZ hS hA hP hD [0, 1, 2] rfl rfl 0 rfl rfl rfl) rfl rfl hl.1 rfl (lv_room (Nat.le_of_ble_eq_true rfl)) dX12_fixed_22 ⟨by rw [hRc]; exact Nat.le_of_ble_eq_true rfl, by rw [hRs]; exact Nat.le_of_ble_eq_true rfl⟩) hP hD hS hA [0, 1, 2] rfl (fun _ => rfl) ?_
          clear hP hD hS
          clear H locs
          intro v204 _u H locs hw hP hD hS
          have w205 := hw
          refine lv_icmp_ge (tgt := 54) hx hb dX12_fixed_25 (by decide) (fun c206 => ?_) (fun c206 => ?_)
          · refine lv_iload_n hx hb dX12_fixed_54 rfl (lv_at hl 1 rfl) ?_
            subst hAe
            rw [hQ]
            exact W.iret (v := x20_2_202) hx hb hr (fun t ht hW => ⟨⟨x20_2_202, (), rfl, (mm_wk rx20_2_202 (by decide)), by rw [ht]; exact hP, hK.warm hW, hD⟩, hS.F ht⟩) hS.2.2 dX12_fixed_55
          · have q207 := mm_ltL (h := 9) (mm_nle c206) rx20_3_201 w205 (by decide)
            have q208 := mm_ltR (lo := 1) (mm_nle c206) rx20_3_201 w205 (by decide)
            refine lv_iload_n hx hb dX12_fixed_28 rfl (lv_at hl 1 rfl) ?_
            refine lv_aload_n hx hb dX12_fixed_29 rfl (lv_at hl 2 rfl) ?_
            refine lv_iload_n hx hb dX12_fixed_30 rfl (lv_at hl 3 rfl) ?_
            refine lv_iload_n hx hb dX12_fixed_31 rfl (lv_at hl 0 rfl) ?_
            refine mm_finir (va_runV (As := [.int i_0, .int x20_3_201]) (rest := [.int x20_2_202]) ⟨hx, hb, hml, hown, hts⟩ (M103_X12_turnOf l G cy H.size a_0 i_0 x20_3_201 0 a_1 a_2 a_3 a_4 a_5 i_2 i_3 i_4 i_5 i_6 j_0 i_7 i_8 i_9 i_10 a_6 a_7 a_8 a_9 a_10 a_11 a_12 a_13 a_14 a_15 a_16 a_17 a_18 i_11 i_12 i_13 i_14 i_15 i_16 a_19 i_17 a_20 f_0 f_1 w2 q207 h35 h36) (cwV 2 hts (mm_gV mm_w702 mm_w703 mm_w704 mm_w5 mm_w705) rfl rfl rfl hd_X12_turnOf ⟨by rw [hRf]; exact Nat.le_of_ble_eq_true rfl, by rw [hRl]; exact Nat.le_of_ble_eq_true rfl⟩) (mm_preV hK hZ hS hA hP hD [0, 3, 4] rfl rfl 0 rfl rfl rfl) rfl rfl hl.1 rfl (lv_room (Nat.le_of_ble_eq_true rfl)) dX12_fixed_32 ⟨by rw [hRc]; exact Nat.le_of_ble_eq_true rfl, by rw [hRs]; exact Nat.le_of_ble_eq_true rfl⟩) hP hD hS hA [0, 3, 4] rfl (fun _ => rfl) ?_
            clear hP hD hS
            clear H locs
            intro v209 _u H locs hw hP hD hS
            have w210 := hw
            refine lv_iload_n hx hb dX12_fixed_35 rfl (lv_at hl 0 rfl) ?_
            refine lv_icmp_ne (tgt := 45) hx hb dX12_fixed_36 (by decide) (fun c211 => ?_) (fun c211 => ?_)
            · refine lv_iconst (v := 0) hx hb dX12_fixed_45 (by decide) ?_
              refine lv_ior hx hb dX12_fixed_46 ?_
              refine lv_topi (fun v212 ev212 => ?_)
              have rv212 : mm_rg v212 0 2147483647 := mm_or ev212 31 rx20_2_202 mm_k0 (by decide)
              refine lv_istore_n (lv' := [(2, .int v212), (3, .int x20_3_201), (0, .ref a_0), (1, .int i_0)]) hx hb dX12_fixed_47 rfl hl (by decide) rfl ?_
              clear hl
              clear ls
              intro ls hl
              obtain ⟨v213, ev213⟩ : ∃ y : Int32, y = x20_3_201 + 1 := ⟨_, rfl⟩
              refine lv_iinc (v := v213) (lv' := [(3, .int v213), (2, .int v212), (0, .ref a_0), (1, .int i_0)]) hx hb dX12_fixed_48 hl (k := 1) rfl (by rw [ev213]; rfl) (by decide) rfl ?_
              clear hl
              clear ls
              intro ls hl
              have rv213 : mm_rg v213 1 10 := mm_add ev213 q207 mm_k1 (by decide) (by decide)
              have tv213 := mm_addEc ev213 q207 mm_k1 (by decide) (k := 1) (by decide)
              refine lv_goto (tgt := 20) hx hb dX12_fixed_51 (by decide) ?_
              exact ih20 v213 v212 (mm_wk rv213 (by decide)) rv212 (mm_mu hm20 tv213 (by decide) (rv213).2 (by decide)) H locs hP hD hS ls (lv_sub hl [0, 1, 2, 3] rfl)
            · refine lv_iconst (v := 1) hx hb dX12_fixed_39 (by decide) ?_
              refine lv_iload_n hx hb dX12_fixed_40 rfl (lv_at hl 0 rfl) ?_
              refine lv_ishl hx hb dX12_fixed_41 ?_
              refine lv_topi (fun v214 ev214 => ?_)
              have rv214 : mm_rg v214 1 512 := mm_shl1 ev214 q207 (by decide)
              refine lv_goto (tgt := 46) hx hb dX12_fixed_42 (by decide) ?_
              refine lv_ior hx hb dX12_fixed_46 ?_
              refine lv_topi (fun v215 ev215 => ?_)
              have rv215 : mm_rg v215 0 2147483647 := mm_or ev215 31 rx20_2_202 rv214 (by decide)
              refine lv_istore_n (lv' := [(2, .int v215), (3, .int x20_3_201), (0, .ref a_0), (1, .int i_0)]) hx hb dX12_fixed_47 rfl hl (by decide) rfl ?_
              clear hl
              clear ls
              intro ls hl
              obtain ⟨v216, ev216⟩ : ∃ y : Int32, y = x20_3_201 + 1 := ⟨_, rfl⟩
              refine lv_iinc (v := v216) (lv' := [(3, .int v216), (2, .int v215), (0, .ref a_0), (1, .int i_0)]) hx hb dX12_fixed_48 hl (k := 1) rfl (by rw [ev216]; rfl) (by decide) rfl ?_
              clear hl
              clear ls
              intro ls hl
              have rv216 : mm_rg v216 1 10 := mm_add ev216 q207 mm_k1 (by decide) (by decide)
              have tv216 := mm_addEc ev216 q207 mm_k1 (by decide) (k := 1) (by decide)
              refine lv_goto (tgt := 20) hx hb dX12_fixed_51 (by decide) ?_
              exact ih20 v216 v215 (mm_wk rv216 (by decide)) rv215 (mm_mu hm20 tv216 (by decide) (rv216).2 (by decide)) H locs hP hD hS ls (lv_sub hl [0, 1, 2, 3] rfl)
      exact L20_202 _ 0 0 (mm_wk mm_k0 (by decide)) (mm_wk mm_k0 (by decide)) (Nat.lt_succ_self _) H locs hP hD hS ls (lv_sub hl [0, 1, 2, 3] rfl)
    · exact mm_eqN c8.symm mm_k0 mm_k1 (by decide)

set_option maxHeartbeats 4000000 in
set_option maxRecDepth 100000 in
theorem M105_X12_undo (l : Launch) (G : va_G) (cy : Nat → ClassId) (sz : Nat) (a_0 : Nat) (i_0 : Int32) (a_1 : Nat) (a_2 : Nat) (a_3 : Nat) (a_4 : Nat) (a_5 : Nat) (i_1 : Int32) (i_2 : Int32) (i_3 : Int32) (i_4 : Int32) (i_5 : Int32) (j_0 : Int64) (i_6 : Int32) (i_7 : Int32) (i_8 : Int32) (i_9 : Int32) (a_6 : Nat) (a_7 : Nat) (a_8 : Nat) (a_9 : Nat) (a_10 : Nat) (a_11 : Nat) (a_12 : Nat) (a_13 : Nat) (a_14 : Nat) (a_15 : Nat) (a_16 : Nat) (a_17 : Nat) (a_18 : Nat) (i_10 : Int32) (i_11 : Int32) (i_12 : Int32) (i_13 : Int32) (i_14 : Int32) (i_15 : Int32) (a_19 : Nat) (i_16 : Int32) (a_20 : Nat) (i_17 : Int32) (i_18 : Int32) (i_19 : Int32) (i_20 : Int32) (i_21 : Int32) (i_22 : Int32) (i_23 : Int32) (i_24 : Int32) (i_25 : Int32) (i_26 : Int32) (i_27 : Int32) (i_28 : Int32) (i_29 : Int32) (i_30 : Int32) (i_31 : Int32) (i_32 : Int32) (i_33 : Int32) (i_34 : Int32) (i_35 : Int32) (i_36 : Int32) (i_37 : Int32) (i_38 : Int32) (i_39 : Int32) (i_40 : Int32) (i_41 : Int32) (i_42 : Int32) (i_43 : Int32) (i_44 : Int32) (i_45 : Int32) (i_46 : Int32) (i_47 : Int32) (i_48 : Int32) (i_49 : Int32) (i_50 : Int32) (i_51 : Int32) (h0 : mm_rg i_17 0 601) (h1 : mm_rg i_18 0 601) (h2 : mm_rg i_19 0 601) (h3 : mm_rg i_20 0 601) (h4 : mm_rg i_21 0 601) (h5 : mm_rg i_22 0 10) (h6 : mm_rg i_23 0 99) (h7 : mm_rg i_24 0 9) (h8 : mm_rg i_25 0 3) (h9 : mm_rg i_26 0 6) (h10 : mm_rg i_27 0 30) (h11 : mm_rg i_28 0 10) (h12 : mm_rg i_29 0 99) (h13 : mm_rg i_30 0 9) (h14 : mm_rg i_31 0 3) (h15 : mm_rg i_32 0 6) (h16 : mm_rg i_33 0 30) (h17 : mm_rg i_34 0 10) (h18 : mm_rg i_35 0 99) (h19 : mm_rg i_36 0 9) (h20 : mm_rg i_37 0 3) (h21 : mm_rg i_38 0 6) (h22 : mm_rg i_39 0 30) (h23 : mm_rg i_40 0 10) (h24 : mm_rg i_41 0 99) (h25 : mm_rg i_42 0 9) (h26 : mm_rg i_43 0 3) (h27 : mm_rg i_44 0 6) (h28 : mm_rg i_45 0 30) (h29 : mm_rg i_46 0 10) (h30 : mm_rg i_47 0 99) (h31 : mm_rg i_48 0 9) (h32 : mm_rg i_49 0 3) (h33 : mm_rg i_50 0 6) (h34 : mm_rg i_51 0 30) (h35 : mm_tl i_17 i_25 i_26) (h36 : mm_tl i_18 i_31 i_32) (h37 : mm_tl i_19 i_37 i_38) (h38 : mm_tl i_20 i_43 i_44)  : mm_CI l yX12_undo (mm_ws yX12_undo cX12_undo 1 (some .int)) ({ frames := 1, cells := 0, slots := 0, locals := 20 } : Room) G cy sz [(a_0, .inr (12, [.int i_0, .ref a_1, .ref a_2, .ref a_3, .ref a_4, .ref a_5, .int i_1, .int i_2, .int i_3, .int i_4, .int i_5, .long j_0, .int i_6, .int i_7, .int i_8, .int i_9, .ref a_6, .ref a_7, .ref a_8, .ref a_9, .ref a_10, .ref a_11, .ref a_12, .ref a_13, .ref a_14, .ref a_15, .ref a_16, .ref a_17, .ref a_18, .int i_10, .int i_11, .int i_12, .int i_13, .int i_14, .int i_15, .ref a_19, .int i_16, .ref a_20])), (a_6, .inl (cy 1, 5, .inl (mm_g [i_17, i_18, i_19, i_20, i_21]))), (a_7, .inl (cy 1, 30, .inl (mm_g [i_22, i_23, i_24, i_25, i_26, i_27, i_28, i_29, i_30, i_31, i_32, i_33, i_34, i_35, i_36, i_37, i_38, i_39, i_40, i_41, i_42, i_43, i_44, i_45, i_46, i_47, i_48, i_49, i_50, i_51])))] [.ref a_0] (fun u : Int32 => [(a_0, .inr (12, [.int 0, .ref a_1, .ref a_2, .ref a_3, .ref a_4, .ref a_5, .int i_1, .int i_2, .int i_3, .int i_4, .int i_5, .long j_0, .int i_6, .int i_7, .int i_8, .int i_9, .ref a_6, .ref a_7, .ref a_8, .ref a_9, .ref a_10, .ref a_11, .ref a_12, .ref a_13, .ref a_14, .ref a_15, .ref a_16, .ref a_17, .ref a_18, .int i_10, .int i_11, .int i_12, .int i_13, .int i_14, .int i_15, .ref a_19, .int i_16, .ref a_20])), (a_6, .inl (cy 1, 5, .inl (mm_g [i_17, i_18, i_19, i_20, i_21]))), (a_7, .inl (cy 1, 30, .inl (mm_g [i_22, i_23, i_24, i_25, i_26, u, i_28, i_29, i_30, i_31, i_32, i_33, i_34, i_35, i_36, i_37, i_38, i_39, i_40, i_41, i_42, i_43, i_44, i_45, i_46, i_47, i_48, i_49, i_50, i_51])))]) (fun (r : Int32) (u : Int32) => mm_rg u 0 30 ∧ (u : Int32).toInt ≤ (i_27 : Int32).toInt ∧ mm_rg r (-5) 29) 0 0 := by
  refine mm_begin (lv := [(0, .ref a_0)]) (by decide) (Nat.le_of_ble_eq_true rfl) rfl ?_
  intro p e s m below meth c A ls R args Q H locs hRe hQ hAe hx hb hr hlocks hml hown hnm hts hsz hA hS hP hK hD hZ hl
  have hRf : R.frames = 1 := by rw [hRe]
  have hRl : R.locals = 20 := by rw [hRe]
  have hRc : R.cells = 0 := by rw [hRe]
  have hRs : R.slots = 0 := by rw [hRe]
  refine lv_aload_n hx hb dX12_undo_0 rfl (lv_at hl 0 rfl) ?_
  refine lv_iconst (v := 0) hx hb dX12_undo_1 (by decide) ?_
  refine va_put (D := G) (ci := 12) (v := .int 0) (ty := tyX12 0) (C := RX12) (T := TX12) (N := 38) hx hb hts (mm_i inlX12) tyX12 tyX12_ok nmX12 hown hK.1 hP hD hS 0 rfl rfl 0 (by decide) (mm_h hts mm_w177) (fun _ h9 => h9) rfl (tyX12_ok 0 (by decide)) rfl rfl (Nat.le_of_ble_eq_true rfl) dX12_undo_2 ?_
  clear hP hD hS
  clear H locs
  intro H locs (hP : va_P G vwCl [(a_0, .inr (12, [.int 0, .ref a_1, .ref a_2, .ref a_3, .ref a_4, .ref a_5, .int i_1, .int i_2, .int i_3, .int i_4, .int i_5, .long j_0, .int i_6, .int i_7, .int i_8, .int i_9, .ref a_6, .ref a_7, .ref a_8, .ref a_9, .ref a_10, .ref a_11, .ref a_12, .ref a_13, .ref a_14, .ref a_15, .ref a_16, .ref a_17, .ref a_18, .int i_10, .int i_11, .int i_12, .int i_13, .int i_14, .int i_15, .ref a_19, .int i_16, .ref a_20])), (a_6, .inl (cy 1, 5, .inl (mm_g [i_17, i_18, i_19, i_20, i_21]))), (a_7, .inl (cy 1, 30, .inl (mm_g [i_22, i_23, i_24, i_25, i_26, i_27, i_28, i_29, i_30, i_31, i_32, i_33, i_34, i_35, i_36, i_37, i_38, i_39, i_40, i_41, i_42, i_43, i_44, i_45, i_46, i_47, i_48, i_49, i_50, i_51])))] H) (hD : va_D A [(a_0, .inr (12, [.int 0, .ref a_1, .ref a_2, .ref a_3, .ref a_4, .ref a_5, .int i_1, .int i_2, .int i_3, .int i_4, .int i_5, .long j_0, .int i_6, .int i_7, .int i_8, .int i_9, .ref a_6, .ref a_7, .ref a_8, .ref a_9, .ref a_10, .ref a_11, .ref a_12, .ref a_13, .ref a_14, .ref a_15, .ref a_16, .ref a_17, .ref a_18, .int i_10, .int i_11, .int i_12, .int i_13, .int i_14, .int i_15, .ref a_19, .int i_16, .ref a_20])), (a_6, .inl (cy 1, 5, .inl (mm_g [i_17, i_18, i_19, i_20, i_21]))), (a_7, .inl (cy 1, 30, .inl (mm_g [i_22, i_23, i_24, i_25, i_26, i_27, i_28, i_29, i_30, i_31, i_32, i_33, i_34, i_35, i_36, i_37, i_38, i_39, i_40, i_41, i_42, i_43, i_44, i_45, i_46, i_47, i_48, i_49, i_50, i_51])))]) hS
  refine lv_aload_n hx hb dX12_undo_5 rfl (lv_at hl 0 rfl) ?_
  refine mm_finir (va_runV (As := []) (rest := []) ⟨hx, hb, hml, hown, hts⟩ (M99_X12_isBook l G cy H.size a_0 0 a_1 a_2 a_3 a_4 a_5 i_1 i_2 i_3 i_4 i_5 j_0 i_6 i_7 i_8 i_9 a_6 a_7 a_8 a_9 a_10 a_11 a_12 a_13 a_14 a_15 a_16 a_17 a_18 i_10 i_11 i_12 i_13 i_14 i_15 a_19 i_16 a_20 i_17 i_18 i_19 i_20 i_21 h0 h1 h2 h3 h4) (cwV 0 hts (mm_gV mm_w653 mm_w654 mm_w655 mm_w5 mm_w656) rfl rfl rfl hd_X12_isBook ⟨by rw [hRf]; exact Nat.le_of_ble_eq_true rfl, by rw [hRl]; exact Nat.le_of_ble_eq_true rfl⟩) (mm_preV hK hZ hS hA hP hD [0, 1] rfl rfl 0 rfl rfl rfl) rfl rfl hl.1 rfl (lv_room (Nat.le_of_ble_eq_true rfl)) dX12_undo_6 ⟨by rw [hRc]; exact Nat.le_of_ble_eq_true rfl, by rw [hRs]; exact Nat.le_of_ble_eq_true rfl⟩) hP hD hS hA [0, 1] rfl (fun _ => rfl) ?_
  clear hP hD hS
  clear H locs
  intro v1 _u H locs hw hP hD hS
  rcases hw with rfl | rfl
  · refine lv_if_ne (tgt := 15) hx hb dX12_undo_9 (by decide) (fun c2 => ?_) (fun c2 => ?_)
    · have q3 := mm_neL (lo := 1) (mm_ne c2) mm_k0 mm_k0 (by decide) (by decide)
      exact mm_no q3 (by decide)
    · refine lv_bipush (v := (-2)) hx hb dX12_undo_12 (by decide) ?_
      subst hAe
      rw [hQ]
      exact W.iret (v := (-2)) hx hb hr (fun t ht hW => ⟨⟨(-2), i_27, rfl, ⟨h10, (Int.le_refl _), (mm_wk mm_km2 (by decide))⟩, by rw [ht]; exact hP, hK.warm hW, hD⟩, hS.F ht⟩) hS.2.2 dX12_undo_14
  · refine lv_if_ne (tgt := 15) hx hb dX12_undo_9 (by decide) (fun c4 => ?_) (fun c4 => ?_)
    · refine lv_aload_n hx hb dX12_undo_15 rfl (lv_at hl 0 rfl) ?_
      refine va_get (D := G) (ci := 12) (v := .ref a_7) (C := RX12) (T := TX12) (N := 38) hx hb hts (mm_i inlX12) hown hK.1 hP 0 rfl rfl 17 (by decide) (mm_h hts mm_w149) (fun _ h9 => h9) rfl dX12_undo_16 ?_
      refine lv_iconst (v := 5) hx hb dX12_undo_19 (by decide) ?_
      refine va_iald hx hb hK.1 hP 2 1 rfl rfl (mm_in mm_k5 (by decide)) dX12_undo_20 ?_
      refine W.eq (g2 := F0 m 21 ls [.int i_27]) rfl ?_
      refine lv_if_ne (tgt := 27) hx hb dX12_undo_21 (by decide) (fun c5 => ?_) (fun c5 => ?_)
      · have q6 := mm_neL (lo := 1) (mm_ne c5) h10 mm_k0 (by decide) (by decide)
        refine lv_aload_n hx hb dX12_undo_27 rfl (lv_at hl 0 rfl) ?_
        refine va_get (D := G) (ci := 12) (v := .ref a_7) (C := RX12) (T := TX12) (N := 38) hx hb hts (mm_i inlX12) hown hK.1 hP 0 rfl rfl 17 (by decide) (mm_h hts mm_w149) (fun _ h9 => h9) rfl dX12_undo_28 ?_
        refine lv_iconst (v := 5) hx hb dX12_undo_31 (by decide) ?_
        refine lv_dup2_11 hx hb dX12_undo_32 rfl rfl ?_
        refine va_iald hx hb hK.1 hP 2 1 rfl rfl (mm_in mm_k5 (by decide)) dX12_undo_33 ?_
        refine W.eq (g2 := F0 m 34 ls [.int i_27, .int 5, .ref a_7]) rfl ?_
        refine lv_iconst (v := 1) hx hb dX12_undo_34 (by decide) ?_
        refine lv_isub hx hb dX12_undo_35 ?_
        refine lv_topi (fun v7 ev7 => ?_)
        have rv7 : mm_rg v7 0 29 := mm_sub ev7 q6 mm_k1 (by decide) (by decide)
        have tv7 := mm_subEc ev7 q6 mm_k1 (by decide) (k := (-1)) (by decide)
        refine va_iast hx hb hK.1 hP hD hS 2 1 rfl rfl (mm_in mm_k5 (by decide)) dX12_undo_36 ?_
        clear hP hD hS
        clear H locs
        rw [show upd (mm_g [i_22, i_23, i_24, i_25, i_26, i_27, i_28, i_29, i_30, i_31, i_32, i_33, i_34, i_35, i_36, i_37, i_38, i_39, i_40, i_41, i_42, i_43, i_44, i_45, i_46, i_47, i_48, i_49, i_50, i_51]) (5 : Int32).toNatClampNeg v7 = (mm_g [i_22, i_23, i_24, i_25, i_26, v7, i_28, i_29, i_30, i_31, i_32, i_33, i_34, i_35, i_36, i_37, i_38, i_39, i_40, i_41, i_42, i_43, i_44, i_45, i_46, i_47, i_48, i_49, i_50, i_51]) from mm_gs (by decide) rfl]
        intro H locs (hP : va_P G vwCl [(a_0, .inr (12, [.int 0, .ref a_1, .ref a_2, .ref a_3, .ref a_4, .ref a_5, .int i_1, .int i_2, .int i_3, .int i_4, .int i_5, .long j_0, .int i_6, .int i_7, .int i_8, .int i_9, .ref a_6, .ref a_7, .ref a_8, .ref a_9, .ref a_10, .ref a_11, .ref a_12, .ref a_13, .ref a_14, .ref a_15, .ref a_16, .ref a_17, .ref a_18, .int i_10, .int i_11, .int i_12, .int i_13, .int i_14, .int i_15, .ref a_19, .int i_16, .ref a_20])), (a_6, .inl (cy 1, 5, .inl (mm_g [i_17, i_18, i_19, i_20, i_21]))), (a_7, .inl (cy 1, 30, .inl (mm_g [i_22, i_23, i_24, i_25, i_26, v7, i_28, i_29, i_30, i_31, i_32, i_33, i_34, i_35, i_36, i_37, i_38, i_39, i_40, i_41, i_42, i_43, i_44, i_45, i_46, i_47, i_48, i_49, i_50, i_51])))] H) (hD : va_D A [(a_0, .inr (12, [.int 0, .ref a_1, .ref a_2, .ref a_3, .ref a_4, .ref a_5, .int i_1, .int i_2, .int i_3, .int i_4, .int i_5, .long j_0, .int i_6, .int i_7, .int i_8, .int i_9, .ref a_6, .ref a_7, .ref a_8, .ref a_9, .ref a_10, .ref a_11, .ref a_12, .ref a_13, .ref a_14, .ref a_15, .ref a_16, .ref a_17, .ref a_18, .int i_10, .int i_11, .int i_12, .int i_13, .int i_14, .int i_15, .ref a_19, .int i_16, .ref a_20])), (a_6, .inl (cy 1, 5, .inl (mm_g [i_17, i_18, i_19, i_20, i_21]))), (a_7, .inl (cy 1, 30, .inl (mm_g [i_22, i_23, i_24, i_25, i_26, v7, i_28, i_29, i_30, i_31, i_32, i_33, i_34, i_35, i_36, i_37, i_38, i_39, i_40, i_41, i_42, i_43, i_44, i_45, i_46, i_47, i_48, i_49, i_50, i_51])))]) hS
        refine lv_aload_n hx hb dX12_undo_37 rfl (lv_at hl 0 rfl) ?_
        refine va_get (D := G) (ci := 12) (v := .ref a_7) (C := RX12) (T := TX12) (N := 38) hx hb hts (mm_i inlX12) hown hK.1 hP 0 rfl rfl 17 (by decide) (mm_h hts mm_w149) (fun _ h9 => h9) rfl dX12_undo_38 ?_
        refine lv_iconst (v := 5) hx hb dX12_undo_41 (by decide) ?_
        refine va_iald hx hb hK.1 hP 2 1 rfl rfl (mm_in mm_k5 (by decide)) dX12_undo_42 ?_
        refine W.eq (g2 := F0 m 43 ls [.int v7]) rfl ?_
        subst hAe
        rw [hQ]
        exact W.iret (v := v7) hx hb hr (fun t ht hW => ⟨⟨v7, v7, rfl, ⟨(mm_wk rv7 (by decide)), (by have := tv7; omega), (mm_wk rv7 (by decide))⟩, by rw [ht]; exact hP, hK.warm hW, hD⟩, hS.F ht⟩) hS.2.2 dX12_undo_43
      · have q8 := mm_eqI (lo := 0) (hi := 0) c5 h10 mm_k0 (by decide)
        refine lv_bipush (v := (-5)) hx hb dX12_undo_24 (by decide) ?_
        subst hAe
        rw [hQ]
        exact W.iret (v := (-5)) hx hb hr (fun t ht hW => ⟨⟨(-5), i_27, rfl, ⟨(mm_wk q8 (by decide)), (Int.le_refl _), (mm_wk mm_km5 (by decide))⟩, by rw [ht]; exact hP, hK.warm hW, hD⟩, hS.F ht⟩) hS.2.2 dX12_undo_26
    · exact mm_eqN c4.symm mm_k0 mm_k1 (by decide)

set_option maxHeartbeats 4000000 in
set_option maxRecDepth 100000 in
theorem M106_X12_anew (l : Launch) (G : va_G) (cy : Nat → ClassId) (sz : Nat) (a_0 : Nat) (i_0 : Int32) (a_1 : Nat) (a_2 : Nat) (a_3 : Nat) (a_4 : Nat) (a_5 : Nat) (i_1 : Int32) (i_2 : Int32) (i_3 : Int32) (i_4 : Int32) (i_5 : Int32) (j_0 : Int64) (i_6 : Int32) (i_7 : Int32) (i_8 : Int32) (i_9 : Int32) (a_6 : Nat) (a_7 : Nat) (a_8 : Nat) (a_9 : Nat) (a_10 : Nat) (a_11 : Nat) (a_12 : Nat) (a_13 : Nat) (a_14 : Nat) (a_15 : Nat) (a_16 : Nat) (a_17 : Nat) (a_18 : Nat) (i_10 : Int32) (i_11 : Int32) (i_12 : Int32) (i_13 : Int32) (i_14 : Int32) (i_15 : Int32) (a_19 : Nat) (i_16 : Int32) (a_20 : Nat) (i_17 : Int32) (i_18 : Int32) (i_19 : Int32) (i_20 : Int32) (i_21 : Int32) (i_22 : Int32) (i_23 : Int32) (i_24 : Int32) (i_25 : Int32) (i_26 : Int32) (i_27 : Int32) (i_28 : Int32) (i_29 : Int32) (i_30 : Int32) (i_31 : Int32) (i_32 : Int32) (i_33 : Int32) (i_34 : Int32) (i_35 : Int32) (i_36 : Int32) (i_37 : Int32) (i_38 : Int32) (i_39 : Int32) (i_40 : Int32) (i_41 : Int32) (i_42 : Int32) (i_43 : Int32) (i_44 : Int32) (i_45 : Int32) (i_46 : Int32) (i_47 : Int32) (i_48 : Int32) (i_49 : Int32) (i_50 : Int32) (i_51 : Int32) (h0 : mm_rg i_17 0 601) (h1 : mm_rg i_18 0 601) (h2 : mm_rg i_19 0 601) (h3 : mm_rg i_20 0 601) (h4 : mm_rg i_21 0 601) (h5 : mm_rg i_22 0 10) (h6 : mm_rg i_23 0 99) (h7 : mm_rg i_24 0 9) (h8 : mm_rg i_25 0 3) (h9 : mm_rg i_26 0 6) (h10 : mm_rg i_27 0 30) (h11 : mm_rg i_28 0 10) (h12 : mm_rg i_29 0 99) (h13 : mm_rg i_30 0 9) (h14 : mm_rg i_31 0 3) (h15 : mm_rg i_32 0 6) (h16 : mm_rg i_33 0 30) (h17 : mm_rg i_34 0 10) (h18 : mm_rg i_35 0 99) (h19 : mm_rg i_36 0 9) (h20 : mm_rg i_37 0 3) (h21 : mm_rg i_38 0 6) (h22 : mm_rg i_39 0 30) (h23 : mm_rg i_40 0 10) (h24 : mm_rg i_41 0 99) (h25 : mm_rg i_42 0 9) (h26 : mm_rg i_43 0 3) (h27 : mm_rg i_44 0 6) (h28 : mm_rg i_45 0 30) (h29 : mm_rg i_46 0 10) (h30 : mm_rg i_47 0 99) (h31 : mm_rg i_48 0 9) (h32 : mm_rg i_49 0 3) (h33 : mm_rg i_50 0 6) (h34 : mm_rg i_51 0 30) (h35 : mm_tl i_17 i_25 i_26) (h36 : mm_tl i_18 i_31 i_32) (h37 : mm_tl i_19 i_37 i_38) (h38 : mm_tl i_20 i_43 i_44)  : mm_CI l yX12_anew (mm_ws yX12_anew cX12_anew 2 (some .int)) ({ frames := 1, cells := 0, slots := 0, locals := 20 } : Room) G cy sz [(a_0, .inr (12, [.int i_0, .ref a_1, .ref a_2, .ref a_3, .ref a_4, .ref a_5, .int i_1, .int i_2, .int i_3, .int i_4, .int i_5, .long j_0, .int i_6, .int i_7, .int i_8, .int i_9, .ref a_6, .ref a_7, .ref a_8, .ref a_9, .ref a_10, .ref a_11, .ref a_12, .ref a_13, .ref a_14, .ref a_15, .ref a_16, .ref a_17, .ref a_18, .int i_10, .int i_11, .int i_12, .int i_13, .int i_14, .int i_15, .ref a_19, .int i_16, .ref a_20])), (a_6, .inl (cy 1, 5, .inl (mm_g [i_17, i_18, i_19, i_20, i_21]))), (a_7, .inl (cy 1, 30, .inl (mm_g [i_22, i_23, i_24, i_25, i_26, i_27, i_28, i_29, i_30, i_31, i_32, i_33, i_34, i_35, i_36, i_37, i_38, i_39, i_40, i_41, i_42, i_43, i_44, i_45, i_46, i_47, i_48, i_49, i_50, i_51])))] [.ref a_0] (fun u : Int32 => [(a_0, .inr (12, [.int 0, .ref a_1, .ref a_2, .ref a_3, .ref a_4, .ref a_5, .int i_1, .int i_2, .int i_3, .int i_4, .int i_5, .long j_0, .int i_6, .int i_7, .int i_8, .int i_9, .ref a_6, .ref a_7, .ref a_8, .ref a_9, .ref a_10, .ref a_11, .ref a_12, .ref a_13, .ref a_14, .ref a_15, .ref a_16, .ref a_17, .ref a_18, .int i_10, .int i_11, .int i_12, .int i_13, .int i_14, .int i_15, .ref a_19, .int i_16, .ref a_20])), (a_6, .inl (cy 1, 5, .inl (mm_g [i_17, i_18, i_19, i_20, i_21]))), (a_7, .inl (cy 1, 30, .inl (mm_g [i_22, i_23, i_24, i_25, i_26, u, i_28, i_29, i_30, i_31, i_32, i_33, i_34, i_35, i_36, i_37, i_38, i_39, i_40, i_41, i_42, i_43, i_44, i_45, i_46, i_47, i_48, i_49, i_50, i_51])))]) (fun (r : Int32) (u : Int32) => mm_rg u 0 30 ∧ (u : Int32).toInt ≤ (i_27 : Int32).toInt ∧ mm_rg r (-2) 30) 0 0 := by
  refine mm_begin (lv := [(0, .ref a_0)]) (by decide) (Nat.le_of_ble_eq_true rfl) rfl ?_
  intro p e s m below meth c A ls R args Q H locs hRe hQ hAe hx hb hr hlocks hml hown hnm hts hsz hA hS hP hK hD hZ hl
  have hRf : R.frames = 1 := by rw [hRe]
  have hRl : R.locals = 20 := by rw [hRe]
  have hRc : R.cells = 0 := by rw [hRe]
  have hRs : R.slots = 0 := by rw [hRe]
  refine lv_aload_n hx hb dX12_anew_0 rfl (lv_at hl 0 rfl) ?_
  refine lv_iconst (v := 0) hx hb dX12_anew_1 (by decide) ?_
  refine va_put (D := G) (ci := 12) (v := .int 0) (ty := tyX12 0) (C := RX12) (T := TX12) (N := 38) hx hb hts (mm_i inlX12) tyX12 tyX12_ok nmX12 hown hK.1 hP hD hS 0 rfl rfl 0 (by decide) (mm_h hts mm_w177) (fun _ h9 => h9) rfl (tyX12_ok 0 (by decide)) rfl rfl (Nat.le_of_ble_eq_true rfl) dX12_anew_2 ?_
  clear hP hD hS
  clear H locs
  intro H locs (hP : va_P G vwCl [(a_0, .inr (12, [.int 0, .ref a_1, .ref a_2, .ref a_3, .ref a_4, .ref a_5, .int i_1, .int i_2, .int i_3, .int i_4, .int i_5, .long j_0, .int i_6, .int i_7, .int i_8, .int i_9, .ref a_6, .ref a_7, .ref a_8, .ref a_9, .ref a_10, .ref a_11, .ref a_12, .ref a_13, .ref a_14, .ref a_15, .ref a_16, .ref a_17, .ref a_18, .int i_10, .int i_11, .int i_12, .int i_13, .int i_14, .int i_15, .ref a_19, .int i_16, .ref a_20])), (a_6, .inl (cy 1, 5, .inl (mm_g [i_17, i_18, i_19, i_20, i_21]))), (a_7, .inl (cy 1, 30, .inl (mm_g [i_22, i_23, i_24, i_25, i_26, i_27, i_28, i_29, i_30, i_31, i_32, i_33, i_34, i_35, i_36, i_37, i_38, i_39, i_40, i_41, i_42, i_43, i_44, i_45, i_46, i_47, i_48, i_49, i_50, i_51])))] H) (hD : va_D A [(a_0, .inr (12, [.int 0, .ref a_1, .ref a_2, .ref a_3, .ref a_4, .ref a_5, .int i_1, .int i_2, .int i_3, .int i_4, .int i_5, .long j_0, .int i_6, .int i_7, .int i_8, .int i_9, .ref a_6, .ref a_7, .ref a_8, .ref a_9, .ref a_10, .ref a_11, .ref a_12, .ref a_13, .ref a_14, .ref a_15, .ref a_16, .ref a_17, .ref a_18, .int i_10, .int i_11, .int i_12, .int i_13, .int i_14, .int i_15, .ref a_19, .int i_16, .ref a_20])), (a_6, .inl (cy 1, 5, .inl (mm_g [i_17, i_18, i_19, i_20, i_21]))), (a_7, .inl (cy 1, 30, .inl (mm_g [i_22, i_23, i_24, i_25, i_26, i_27, i_28, i_29, i_30, i_31, i_32, i_33, i_34, i_35, i_36, i_37, i_38, i_39, i_40, i_41, i_42, i_43, i_44, i_45, i_46, i_47, i_48, i_49, i_50, i_51])))]) hS
  refine lv_aload_n hx hb dX12_anew_5 rfl (lv_at hl 0 rfl) ?_
  refine mm_finir (va_runV (As := []) (rest := []) ⟨hx, hb, hml, hown, hts⟩ (M99_X12_isBook l G cy H.size a_0 0 a_1 a_2 a_3 a_4 a_5 i_1 i_2 i_3 i_4 i_5 j_0 i_6 i_7 i_8 i_9 a_6 a_7 a_8 a_9 a_10 a_11 a_12 a_13 a_14 a_15 a_16 a_17 a_18 i_10 i_11 i_12 i_13 i_14 i_15 a_19 i_16 a_20 i_17 i_18 i_19 i_20 i_21 h0 h1 h2 h3 h4) (cwV 0 hts (mm_gV mm_w653 mm_w654 mm_w655 mm_w5 mm_w656) rfl rfl rfl hd_X12_isBook ⟨by rw [hRf]; exact Nat.le_of_ble_eq_true rfl, by rw [hRl]; exact Nat.le_of_ble_eq_true rfl⟩) (mm_preV hK hZ hS hA hP hD [0, 1] rfl rfl 0 rfl rfl rfl) rfl rfl hl.1 rfl (lv_room (Nat.le_of_ble_eq_true rfl)) dX12_anew_6 ⟨by rw [hRc]; exact Nat.le_of_ble_eq_true rfl, by rw [hRs]; exact Nat.le_of_ble_eq_true rfl⟩) hP hD hS hA [0, 1] rfl (fun _ => rfl) ?_
  clear hP hD hS
  clear H locs
  intro v1 _u H locs hw hP hD hS
  rcases hw with rfl | rfl
  · refine lv_if_ne (tgt := 15) hx hb dX12_anew_9 (by decide) (fun c2 => ?_) (fun c2 => ?_)
    · have q3 := mm_neL (lo := 1) (mm_ne c2) mm_k0 mm_k0 (by decide) (by decide)
      exact mm_no q3 (by decide)
    · refine lv_bipush (v := (-2)) hx hb dX12_anew_12 (by decide) ?_
      subst hAe
      rw [hQ]
      exact W.iret (v := (-2)) hx hb hr (fun t ht hW => ⟨⟨(-2), i_27, rfl, ⟨h10, (Int.le_refl _), (mm_wk mm_km2 (by decide))⟩, by rw [ht]; exact hP, hK.warm hW, hD⟩, hS.F ht⟩) hS.2.2 dX12_anew_14
  · refine lv_if_ne (tgt := 15) hx hb dX12_anew_9 (by decide) (fun c4 => ?_) (fun c4 => ?_)
    · refine lv_aload_n hx hb dX12_anew_15 rfl (lv_at hl 0 rfl) ?_
      refine va_get (D := G) (ci := 12) (v := .ref a_7) (C := RX12) (T := TX12) (N := 38) hx hb hts (mm_i inlX12) hown hK.1 hP 0 rfl rfl 17 (by decide) (mm_h hts mm_w149) (fun _ h9 => h9) rfl dX12_anew_16 ?_
      refine lv_iconst (v := 5) hx hb dX12_anew_19 (by decide) ?_
      refine va_iald hx hb hK.1 hP 2 1 rfl rfl (mm_in mm_k5 (by decide)) dX12_anew_20 ?_
      refine W.eq (g2 := F0 m 21 ls [.int i_27]) rfl ?_
      refine lv_istore_n (lv' := [(1, .int i_27), (0, .ref a_0)]) hx hb dX12_anew_21 rfl hl (by decide) rfl ?_
      clear hl
      clear ls
      intro ls hl
      refine lv_aload_n hx hb dX12_anew_22 rfl (lv_at hl 1 rfl) ?_
      refine va_get (D := G) (ci := 12) (v := .ref a_7) (C := RX12) (T := TX12) (N := 38) hx hb hts (mm_i inlX12) hown hK.1 hP 0 rfl rfl 17 (by decide) (mm_h hts mm_w149) (fun _ h9 => h9) rfl dX12_anew_23 ?_
      refine lv_iconst (v := 5) hx hb dX12_anew_26 (by decide) ?_
      refine lv_iconst (v := 0) hx hb dX12_anew_27 (by decide) ?_
      refine va_iast hx hb hK.1 hP hD hS 2 1 rfl rfl (mm_in mm_k5 (by decide)) dX12_anew_28 ?_
      clear hP hD hS
      clear H locs
      rw [show upd (mm_g [i_22, i_23, i_24, i_25, i_26, i_27, i_28, i_29, i_30, i_31, i_32, i_33, i_34, i_35, i_36, i_37, i_38, i_39, i_40, i_41, i_42, i_43, i_44, i_45, i_46, i_47, i_48, i_49, i_50, i_51]) (5 : Int32).toNatClampNeg 0 = (mm_g [i_22, i_23, i_24, i_25, i_26, 0, i_28, i_29, i_30, i_31, i_32, i_33, i_34, i_35, i_36, i_37, i_38, i_39, i_40, i_41, i_42, i_43, i_44, i_45, i_46, i_47, i_48, i_49, i_50, i_51]) from mm_gs (by decide) rfl]
      intro H locs (hP : va_P G vwCl [(a_0, .inr (12, [.int 0, .ref a_1, .ref a_2, .ref a_3, .ref a_4, .ref a_5, .int i_1, .int i_2, .int i_3, .int i_4, .int i_5, .long j_0, .int i_6, .int i_7, .int i_8, .int i_9, .ref a_6, .ref a_7, .ref a_8, .ref a_9, .ref a_10, .ref a_11, .ref a_12, .ref a_13, .ref a_14, .ref a_15, .ref a_16, .ref a_17, .ref a_18, .int i_10, .int i_11, .int i_12, .int i_13, .int i_14, .int i_15, .ref a_19, .int i_16, .ref a_20])), (a_6, .inl (cy 1, 5, .inl (mm_g [i_17, i_18, i_19, i_20, i_21]))), (a_7, .inl (cy 1, 30, .inl (mm_g [i_22, i_23, i_24, i_25, i_26, 0, i_28, i_29, i_30, i_31, i_32, i_33, i_34, i_35, i_36, i_37, i_38, i_39, i_40, i_41, i_42, i_43, i_44, i_45, i_46, i_47, i_48, i_49, i_50, i_51])))] H) (hD : va_D A [(a_0, .inr (12, [.int 0, .ref a_1, .ref a_2, .ref a_3, .ref a_4, .ref a_5, .int i_1, .int i_2, .int i_3, .int i_4, .int i_5, .long j_0, .int i_6, .int i_7, .int i_8, .int i_9, .ref a_6, .ref a_7, .ref a_8, .ref a_9, .ref a_10, .ref a_11, .ref a_12, .ref a_13, .ref a_14, .ref a_15, .ref a_16, .ref a_17, .ref a_18, .int i_10, .int i_11, .int i_12, .int i_13, .int i_14, .int i_15, .ref a_19, .int i_16, .ref a_20])), (a_6, .inl (cy 1, 5, .inl (mm_g [i_17, i_18, i_19, i_20, i_21]))), (a_7, .inl (cy 1, 30, .inl (mm_g [i_22, i_23, i_24, i_25, i_26, 0, i_28, i_29, i_30, i_31, i_32, i_33, i_34, i_35, i_36, i_37, i_38, i_39, i_40, i_41, i_42, i_43, i_44, i_45, i_46, i_47, i_48, i_49, i_50, i_51])))]) hS
      refine lv_iload_n hx hb dX12_anew_29 rfl (lv_at hl 0 rfl) ?_
      subst hAe
      rw [hQ]
      exact W.iret (v := i_27) hx hb hr (fun t ht hW => ⟨⟨i_27, 0, rfl, ⟨(mm_wk mm_k0 (by decide)), (mm_leC mm_k0 h10 (by decide)), (mm_wk h10 (by decide))⟩, by rw [ht]; exact hP, hK.warm hW, hD⟩, hS.F ht⟩) hS.2.2 dX12_anew_30
    · exact mm_eqN c4.symm mm_k0 mm_k1 (by decide)

set_option maxHeartbeats 4000000 in
set_option maxRecDepth 100000 in
theorem M107_X12_isSeed (l : Launch) (G : va_G) (cy : Nat → ClassId) (sz : Nat) (i_0 : Int32)   : mm_CI l yX12_isSeed (mm_ws yX12_isSeed cX12_isSeed 1 (some .boolean)) ({ frames := 1, cells := 0, slots := 0, locals := 25 } : Room) G cy sz [] [.int i_0] (fun u : Unit => []) (fun (r : Int32) (u : Unit) => ((0 = r) ∨ (1 = r ∧ mm_rg i_0 0 2000000000))) 0 0 := by
  refine mm_begin (lv := [(0, .int i_0)]) (by decide) (Nat.le_of_ble_eq_true rfl) rfl ?_
  intro p e s m below meth c A ls R args Q H locs hRe hQ hAe hx hb hr hlocks hml hown hnm hts hsz hA hS hP hK hD hZ hl
  have hRf : R.frames = 1 := by rw [hRe]
  have hRl : R.locals = 25 := by rw [hRe]
  have hRc : R.cells = 0 := by rw [hRe]
  have hRs : R.slots = 0 := by rw [hRe]
  refine lv_iload_n hx hb dX12_isSeed_0 rfl (lv_at hl 0 rfl) ?_
  obtain ⟨v1, ev1⟩ : ∃ y : Int64, y = i_0.toInt64 := ⟨_, rfl⟩
  refine lv_i2l hx hb dX12_isSeed_1 ev1.symm ?_
  have rv1 : mm_rl v1 (-2147483648) 2147483647 := mm_i2l ev1 (mm_top i_0)
  refine lv_lconst (v := 0) hx hb dX12_isSeed_2 (by decide) ?_
  refine lv_ldc2 (v := 2000000000) hx hb hown (mm_h hts mm_w1611) dX12_isSeed_3 ?_
  refine mm_finir (va_runS (As := [.long v1, .long 0, .long 2000000000]) (rest := []) ⟨hx, hb, hml, hown, hts⟩ (M7_X12_in l G cy H.size v1 2000000000 ) (va_cwS 3 hts (mm_gS mm_w191 mm_w192 mm_w5 mm_w193) rfl rfl rfl hs_X12_in ⟨by rw [hRf]; exact Nat.le_of_ble_eq_true rfl, by rw [hRl]; exact Nat.le_of_ble_eq_true rfl⟩) (mm_preS hK hZ hS hA hP hD [] rfl rfl) rfl rfl hl.1 rfl (lv_room (Nat.le_of_ble_eq_true rfl)) dX12_isSeed_6 ⟨by rw [hRc]; exact Nat.le_of_ble_eq_true rfl, by rw [hRs]; exact Nat.le_of_ble_eq_true rfl⟩) hP hD hS hA [] rfl (fun _ => rfl) ?_
  clear hP hD hS
  clear H locs
  intro v2 _u H locs hw hP hD hS
  rcases hw with ⟨rfl, w3⟩ | ⟨rfl, w4, w5, w6, w7⟩
  · subst hAe
    rw [hQ]
    exact W.zret (v := 0) hx hb hr rfl (fun t ht hW => ⟨⟨0, (), rfl, (Or.inl rfl), by rw [ht]; exact hP, hK.warm hW, hD⟩, hS.F ht⟩) hS.2.2 dX12_isSeed_9
  · have q8 := mm_meetl (lo := 0) (hi := 2147483647) w4 rv1 (by decide)
    have q9 := mm_meet (lo := 0) (hi := 2147483647) (mm_l2x ev1 q8) (mm_top i_0) (by decide)
    have q10 := mm_leLl w6 q8 mm_kl2000000000
    have q11 := mm_meet (lo := 0) (hi := 2000000000) (mm_l2x ev1 q10) q9 (by decide)
    subst hAe
    rw [hQ]
    exact W.zret (v := 1) hx hb hr rfl (fun t ht hW => ⟨⟨1, (), rfl, (Or.inr ⟨rfl, q11⟩), by rw [ht]; exact hP, hK.warm hW, hD⟩, hS.F ht⟩) hS.2.2 dX12_isSeed_9

set_option maxHeartbeats 4000000 in
set_option maxRecDepth 100000 in
theorem M108_X12_drawnOf (l : Launch) (G : va_G) (cy : Nat → ClassId) (sz : Nat) (a_0 : Nat) (j_0 : Int64) (i_0 : Int32) (i_1 : Int32) (a_1 : Nat) (a_2 : Nat) (a_3 : Nat) (a_4 : Nat) (a_5 : Nat) (i_2 : Int32) (i_3 : Int32) (i_4 : Int32) (i_5 : Int32) (i_6 : Int32) (j_1 : Int64) (i_7 : Int32) (i_8 : Int32) (i_9 : Int32) (i_10 : Int32) (a_6 : Nat) (a_7 : Nat) (a_8 : Nat) (a_9 : Nat) (a_10 : Nat) (a_11 : Nat) (a_12 : Nat) (a_13 : Nat) (a_14 : Nat) (a_15 : Nat) (a_16 : Nat) (a_17 : Nat) (a_18 : Nat) (i_11 : Int32) (i_12 : Int32) (i_13 : Int32) (i_14 : Int32) (i_15 : Int32) (i_16 : Int32) (a_19 : Nat) (i_17 : Int32) (a_20 : Nat) (i_18 : Int32) (i_19 : Int32) (i_20 : Int32) (i_21 : Int32) (i_22 : Int32) (i_23 : Int32) (i_24 : Int32) (i_25 : Int32) (i_26 : Int32) (i_27 : Int32) (i_28 : Int32) (i_29 : Int32) (i_30 : Int32) (i_31 : Int32) (i_32 : Int32) (i_33 : Int32) (i_34 : Int32) (i_35 : Int32) (i_36 : Int32) (i_37 : Int32) (i_38 : Int32) (i_39 : Int32) (i_40 : Int32) (i_41 : Int32) (i_42 : Int32) (i_43 : Int32) (i_44 : Int32) (i_45 : Int32) (i_46 : Int32) (i_47 : Int32) (h0 : mm_rl j_0 0 2000000000) (h1 : mm_rg i_0 0 7) (h2 : mm_rg i_18 0 10) (h3 : mm_rg i_19 0 99) (h4 : mm_rg i_20 0 9) (h5 : mm_rg i_21 0 3) (h6 : mm_rg i_22 0 6) (h7 : mm_rg i_23 0 30) (h8 : mm_rg i_24 0 10) (h9 : mm_rg i_25 0 99) (h10 : mm_rg i_26 0 9) (h11 : mm_rg i_27 0 3) (h12 : mm_rg i_28 0 6) (h13 : mm_rg i_29 0 30) (h14 : mm_rg i_30 0 10) (h15 : mm_rg i_31 0 99) (h16 : mm_rg i_32 0 9) (h17 : mm_rg i_33 0 3) (h18 : mm_rg i_34 0 6) (h19 : mm_rg i_35 0 30) (h20 : mm_rg i_36 0 10) (h21 : mm_rg i_37 0 99) (h22 : mm_rg i_38 0 9) (h23 : mm_rg i_39 0 3) (h24 : mm_rg i_40 0 6) (h25 : mm_rg i_41 0 30) (h26 : mm_rg i_42 0 10) (h27 : mm_rg i_43 0 99) (h28 : mm_rg i_44 0 9) (h29 : mm_rg i_45 0 3) (h30 : mm_rg i_46 0 6) (h31 : mm_rg i_47 0 30)  : mm_CI l yX12_drawnOf (mm_ws yX12_drawnOf cX12_drawnOf 8 (some .int)) ({ frames := 0, cells := 0, slots := 0, locals := 0 } : Room) G cy sz [(a_0, .inr (12, [.int i_1, .ref a_1, .ref a_2, .ref a_3, .ref a_4, .ref a_5, .int i_2, .int i_3, .int i_4, .int i_5, .int i_6, .long j_1, .int i_7, .int i_8, .int i_9, .int i_10, .ref a_6, .ref a_7, .ref a_8, .ref a_9, .ref a_10, .ref a_11, .ref a_12, .ref a_13, .ref a_14, .ref a_15, .ref a_16, .ref a_17, .ref a_18, .int i_11, .int i_12, .int i_13, .int i_14, .int i_15, .int i_16, .ref a_19, .int i_17, .ref a_20])), (a_7, .inl (cy 1, 30, .inl (mm_g [i_18, i_19, i_20, i_21, i_22, i_23, i_24, i_25, i_26, i_27, i_28, i_29, i_30, i_31, i_32, i_33, i_34, i_35, i_36, i_37, i_38, i_39, i_40, i_41, i_42, i_43, i_44, i_45, i_46, i_47])))] [.ref a_0, .long j_0, .int i_0] (fun u : Unit => [(a_0, .inr (12, [.int i_1, .ref a_1, .ref a_2, .ref a_3, .ref a_4, .ref a_5, .int i_2, .int i_3, .int i_4, .int i_5, .int i_6, .long j_1, .int i_7, .int i_8, .int i_9, .int i_10, .ref a_6, .ref a_7, .ref a_8, .ref a_9, .ref a_10, .ref a_11, .ref a_12, .ref a_13, .ref a_14, .ref a_15, .ref a_16, .ref a_17, .ref a_18, .int i_11, .int i_12, .int i_13, .int i_14, .int i_15, .int i_16, .ref a_19, .int i_17, .ref a_20])), (a_7, .inl (cy 1, 30, .inl (mm_g [i_18, i_19, i_20, i_21, i_22, i_23, i_24, i_25, i_26, i_27, i_28, i_29, i_30, i_31, i_32, i_33, i_34, i_35, i_36, i_37, i_38, i_39, i_40, i_41, i_42, i_43, i_44, i_45, i_46, i_47])))]) (fun (r : Int32) (u : Unit) => True) 0 0 := by
  refine mm_begin (lv := [(0, .ref a_0), (1, .long j_0), (3, .int i_0)]) (by decide) (Nat.le_of_ble_eq_true rfl) rfl ?_
  intro p e s m below meth c A ls R args Q H locs hRe hQ hAe hx hb hr hlocks hml hown hnm hts hsz hA hS hP hK hD hZ hl
  have hRf : R.frames = 0 := by rw [hRe]
  have hRl : R.locals = 0 := by rw [hRe]
  have hRc : R.cells = 0 := by rw [hRe]
  have hRs : R.slots = 0 := by rw [hRe]
  refine lv_lload_n hx hb dX12_drawnOf_0 rfl (lv_at hl 1 rfl) ?_
  refine lv_lstore (lv' := [(4, .long j_0), (0, .ref a_0), (1, .long j_0), (3, .int i_0)]) hx hb dX12_drawnOf_1 hl (by decide) rfl ?_
  clear hl
  clear ls
  intro ls hl
  refine lv_iconst (v := 0) hx hb dX12_drawnOf_3 (by decide) ?_
  refine lv_istore (lv' := [(6, .int 0), (4, .long j_0), (0, .ref a_0), (1, .long j_0), (3, .int i_0)]) hx hb dX12_drawnOf_4 hl (by decide) rfl ?_
  clear hl
  clear ls
  intro ls hl
  refine lv_iconst (v := 0) hx hb dX12_drawnOf_6 (by decide) ?_
  refine lv_istore (lv' := [(7, .int 0), (6, .int 0), (4, .long j_0), (0, .ref a_0), (1, .long j_0), (3, .int i_0)]) hx hb dX12_drawnOf_7 hl (by decide) rfl ?_
  clear hl
  clear ls
  intro ls hl
  have L9_438 : ∀ (n : Nat) (x9_7_436 : Int32) (x9_6_437 : Int32) (x9_4_438 : Int64), mm_rg x9_7_436 0 7 → mm_rl x9_4_438 0 2147483647 → (7 - x9_7_436.toInt).toNat < n → ∀ (H : Heap) (locs : List Loc), va_P G vwCl [(a_0, .inr (12, [.int i_1, .ref a_1, .ref a_2, .ref a_3, .ref a_4, .ref a_5, .int i_2, .int i_3, .int i_4, .int i_5, .int i_6, .long j_1, .int i_7, .int i_8, .int i_9, .int i_10, .ref a_6, .ref a_7, .ref a_8, .ref a_9, .ref a_10, .ref a_11, .ref a_12, .ref a_13, .ref a_14, .ref a_15, .ref a_16, .ref a_17, .ref a_18, .int i_11, .int i_12, .int i_13, .int i_14, .int i_15, .int i_16, .ref a_19, .int i_17, .ref a_20])), (a_7, .inl (cy 1, 30, .inl (mm_g [i_18, i_19, i_20, i_21, i_22, i_23, i_24, i_25, i_26, i_27, i_28, i_29, i_30, i_31, i_32, i_33, i_34, i_35, i_36, i_37, i_38, i_39, i_40, i_41, i_42, i_43, i_44, i_45, i_46, i_47])))] H → va_D A [(a_0, .inr (12, [.int i_1, .ref a_1, .ref a_2, .ref a_3, .ref a_4, .ref a_5, .int i_2, .int i_3, .int i_4, .int i_5, .int i_6, .long j_1, .int i_7, .int i_8, .int i_9, .int i_10, .ref a_6, .ref a_7, .ref a_8, .ref a_9, .ref a_10, .ref a_11, .ref a_12, .ref a_13, .ref a_14, .ref a_15, .ref a_16, .ref a_17, .ref a_18, .int i_11, .int i_12, .int i_13, .int i_14, .int i_15, .int i_16, .ref a_19, .int i_17, .ref a_20])), (a_7, .inl (cy 1, 30, .inl (mm_g [i_18, i_19, i_20, i_21, i_22, i_23, i_24, i_25, i_26, i_27, i_28, i_29, i_30, i_31, i_32, i_33, i_34, i_35, i_36, i_37, i_38, i_39, i_40, i_41, i_42, i_43, i_44, i_45, i_46, i_47])))] → va_S A s.heap H locs → ∀ (ls : Array Slot), lv_has ls 8 [(7, .int x9_7_436), (6, .int x9_6_437), (4, .long x9_4_438), (0, .ref a_0), (1, .long j_0), (3, .int i_0)] → W p l e R s m args below meth c H locs 0 0 Q (F0 m 9 ls []) := by
    intro n
    induction n with
    | zero => intro x9_7_436 x9_6_437 x9_4_438 rx9_7_436 rx9_4_438 hm; exact absurd hm (Nat.not_lt_zero _)
    | succ n ih9 =>
      intro x9_7_436 x9_6_437 x9_4_438 rx9_7_436 rx9_4_438 hm9 H locs hP hD hS ls hl
      refine lv_iload hx hb dX12_drawnOf_9 (lv_at hl 0 rfl) ?_
      refine lv_iload_n hx hb dX12_drawnOf_11 rfl (lv_at hl 5 rfl) ?_
      refine lv_icmp_ge (tgt := 68) hx hb dX12_drawnOf_12 (by decide) (fun c440 => ?_) (fun c440 => ?_)
      · refine lv_iload hx hb dX12_drawnOf_68 (lv_at hl 1 rfl) ?_
        subst hAe
        rw [hQ]
        exact W.iret (v := x9_6_437) hx hb hr (fun t ht hW => ⟨⟨x9_6_437, (), rfl, trivial, by rw [ht]; exact hP, hK.warm hW, hD⟩, hS.F ht⟩) hS.2.2 dX12_drawnOf_70
      · have q441 := mm_ltL (h := 6) (mm_nle c440) rx9_7_436 h1 (by decide)
        have q442 := mm_ltR (lo := 1) (mm_nle c440) rx9_7_436 h1 (by decide)
        refine lv_ldc2 (v := 1103515245) hx hb hown (mm_h hts mm_w1616) dX12_drawnOf_15 ?_
        refine lv_lload hx hb dX12_drawnOf_18 (lv_at hl 2 rfl) ?_
        refine lv_lmul hx hb dX12_drawnOf_20 ?_
        refine lv_topl (fun v443 ev443 => ?_)
        have rv443 : mm_rl v443 0 2369780942852698515 := mm_mull ev443 mm_kl1103515245 rx9_4_438 (by decide) (by decide)
        refine lv_ldc2 (v := 12345) hx hb hown (mm_h hts mm_w1617) dX12_drawnOf_21 ?_
        refine lv_ladd hx hb dX12_drawnOf_24 ?_
        refine lv_topl (fun v444 ev444 => ?_)
        have rv444 : mm_rl v444 12345 2369780942852710860 := mm_addl ev444 rv443 mm_kl12345 (by decide) (by decide)
        have tv444 := mm_addlEc ev444 rv443 mm_kl12345 (by decide) (k := 12345) (by decide)
        refine lv_ldc2 (v := 2147483648) hx hb hown (mm_h hts mm_w1618) dX12_drawnOf_25 ?_
        refine lv_lrem hx hb dX12_drawnOf_28 (mm_nzl mm_kl2147483648 (by decide)) ?_
        refine lv_topl (fun v445 ev445 => ?_)
        have rv445 : mm_rl v445 0 2147483647 := mm_reml ev445 rv444 mm_kl2147483648 (by decide) (by decide)
        refine lv_lstore (lv' := [(4, .long v445), (7, .int x9_7_436), (6, .int x9_6_437), (0, .ref a_0), (1, .long j_0), (3, .int i_0)]) hx hb dX12_drawnOf_29 hl (by decide) rfl ?_
        clear hl
        clear ls
        intro ls hl
        refine lv_iload hx hb dX12_drawnOf_31 (lv_at hl 2 rfl) ?_
        refine lv_lload hx hb dX12_drawnOf_33 (lv_at hl 0 rfl) ?_
        refine lv_ldc2 (v := 65536) hx hb hown (mm_h hts mm_w1619) dX12_drawnOf_35 ?_
        refine lv_ldiv hx hb dX12_drawnOf_38 (mm_nzl mm_kl65536 (by decide)) ?_
        refine lv_topl (fun v446 ev446 => ?_)
        have rv446 : mm_rl v446 0 2147483647 := mm_divl ev446 rv445 mm_kl65536 (by decide) (by decide)
        refine lv_ldc2 (v := 10) hx hb hown (mm_h hts mm_w1511) dX12_drawnOf_39 ?_
        refine lv_lrem hx hb dX12_drawnOf_42 (mm_nzl mm_kl10 (by decide)) ?_
        refine lv_topl (fun v447 ev447 => ?_)
        have rv447 : mm_rl v447 0 9 := mm_reml ev447 rv446 mm_kl10 (by decide) (by decide)
        refine lv_aload_n hx hb dX12_drawnOf_43 rfl (lv_at hl 3 rfl) ?_
        refine va_get (D := G) (ci := 12) (v := .ref a_7) (C := RX12) (T := TX12) (N := 38) hx hb hts (mm_i inlX12) hown hK.1 hP 0 rfl rfl 17 (by decide) (mm_h hts mm_w149) (fun _ h9 => h9) rfl dX12_drawnOf_44 ?_
        refine lv_iconst (v := 0) hx hb dX12_drawnOf_47 (by decide) ?_
        refine va_iald hx hb hK.1 hP 1 1 rfl rfl (mm_in mm_k0 (by decide)) dX12_drawnOf_48 ?_
        refine W.eq (g2 := F0 m 49 ls [.int i_18, .long v447, .int x9_6_437]) rfl ?_
        obtain ⟨v448, ev448⟩ : ∃ y : Int64, y = i_18.toInt64 := ⟨_, rfl⟩
        refine lv_i2l hx hb dX12_drawnOf_49 ev448.symm ?_
        have rv448 : mm_rl v448 0 10 := mm_i2l ev448 h2
        refine W.lcmp hx hb dX12_drawnOf_50 ?_
        refine lv_topi (fun v449 ev449 => ?_)
        refine lv_if_ge (tgt := 58) hx hb dX12_drawnOf_51 (by decide) (fun c450 => ?_) (fun c450 => ?_)
        · have q451 := mm_leLl (mm_cmp_ge ev449 c450) rv448 rv447
          have q452 := mm_meet (lo := 0) (hi := 9) (mm_l2x ev448 q451) h2 (by decide)
          refine lv_iconst (v := 0) hx hb dX12_drawnOf_58 (by decide) ?_
          refine lv_iadd hx hb dX12_drawnOf_59 ?_
          refine lv_topi (fun v453 ev453 => ?_)
          have rv453 : mm_rg v453 (-2147483648) 2147483647 := mm_add ev453 (mm_top x9_6_437) mm_k0 (by decide) (by decide)
          have tv453 := mm_addEc ev453 (mm_top x9_6_437) mm_k0 (by decide) (k := 0) (by decide)
          refine lv_istore (lv' := [(6, .int v453), (4, .long v445), (7, .int x9_7_436), (0, .ref a_0), (1, .long j_0), (3, .int i_0)]) hx hb dX12_drawnOf_60 hl (by decide) rfl ?_
          clear hl
          clear ls
          intro ls hl
          obtain ⟨v454, ev454⟩ : ∃ y : Int32, y = x9_7_436 + 1 := ⟨_, rfl⟩
          refine lv_iinc (v := v454) (lv' := [(7, .int v454), (6, .int v453), (4, .long v445), (0, .ref a_0), (1, .long j_0), (3, .int i_0)]) hx hb dX12_drawnOf_62 hl (k := 2) rfl (by rw [ev454]; rfl) (by decide) rfl ?_
          clear hl
          clear ls
          intro ls hl
          have rv454 : mm_rg v454 1 7 := mm_add ev454 q441 mm_k1 (by decide) (by decide)
          have tv454 := mm_addEc ev454 q441 mm_k1 (by decide) (k := 1) (by decide)
          refine lv_goto (tgt := 9) hx hb dX12_drawnOf_65 (by decide) ?_
          exact ih9 v454 v453 v445 (mm_wk rv454 (by decide)) rv445 (mm_mu hm9 tv454 (by decide) (rv454).2 (by decide)) H locs hP hD hS ls (lv_sub hl [0, 1, 2, 3, 4, 5] rfl)
        · have q455 := mm_ltRl (lo := 1) (mm_cmp_lt ev449 (mm_n_ge c450)) rv447 rv448 (by decide)
          have q456 := mm_meet (lo := 1) (hi := 10) (mm_l2x ev448 q455) h2 (by decide)
          refine lv_iconst (v := 1) hx hb dX12_drawnOf_54 (by decide) ?_
          refine lv_goto (tgt := 59) hx hb dX12_drawnOf_55 (by decide) ?_
          refine lv_iadd hx hb dX12_drawnOf_59 ?_
          refine lv_topi (fun v457 ev457 => ?_)
          refine lv_istore (lv' := [(6, .int v457), (4, .long v445), (7, .int x9_7_436), (0, .ref a_0), (1, .long j_0), (3, .int i_0)]) hx hb dX12_drawnOf_60 hl (by decide) rfl ?_
          clear hl
          clear ls
          intro ls hl
          obtain ⟨v458, ev458⟩ : ∃ y : Int32, y = x9_7_436 + 1 := ⟨_, rfl⟩
          refine lv_iinc (v := v458) (lv' := [(7, .int v458), (6, .int v457), (4, .long v445), (0, .ref a_0), (1, .long j_0), (3, .int i_0)]) hx hb dX12_drawnOf_62 hl (k := 2) rfl (by rw [ev458]; rfl) (by decide) rfl ?_
          clear hl
          clear ls
          intro ls hl
          have rv458 : mm_rg v458 1 7 := mm_add ev458 q441 mm_k1 (by decide) (by decide)
          have tv458 := mm_addEc ev458 q441 mm_k1 (by decide) (k := 1) (by decide)
          refine lv_goto (tgt := 9) hx hb dX12_drawnOf_65 (by decide) ?_
          exact ih9 v458 v457 v445 (mm_wk rv458 (by decide)) rv445 (mm_mu hm9 tv458 (by decide) (rv458).2 (by decide)) H locs hP hD hS ls (lv_sub hl [0, 1, 2, 3, 4, 5] rfl)
  exact L9_438 _ 0 0 j_0 (mm_wk mm_k0 (by decide)) (mm_wkl h0 (by decide)) (Nat.lt_succ_self _) H locs hP hD hS ls (lv_sub hl [0, 1, 2, 3, 4, 5] rfl)

set_option maxHeartbeats 4000000 in
set_option maxRecDepth 100000 in
theorem M109_X12_drawn (l : Launch) (G : va_G) (cy : Nat → ClassId) (sz : Nat) (a_0 : Nat) (i_0 : Int32) (i_1 : Int32) (i_2 : Int32) (a_1 : Nat) (a_2 : Nat) (a_3 : Nat) (a_4 : Nat) (a_5 : Nat) (i_3 : Int32) (i_4 : Int32) (i_5 : Int32) (i_6 : Int32) (i_7 : Int32) (j_0 : Int64) (i_8 : Int32) (i_9 : Int32) (i_10 : Int32) (i_11 : Int32) (a_6 : Nat) (a_7 : Nat) (a_8 : Nat) (a_9 : Nat) (a_10 : Nat) (a_11 : Nat) (a_12 : Nat) (a_13 : Nat) (a_14 : Nat) (a_15 : Nat) (a_16 : Nat) (a_17 : Nat) (a_18 : Nat) (i_12 : Int32) (i_13 : Int32) (i_14 : Int32) (i_15 : Int32) (i_16 : Int32) (i_17 : Int32) (a_19 : Nat) (i_18 : Int32) (a_20 : Nat) (i_19 : Int32) (i_20 : Int32) (i_21 : Int32) (i_22 : Int32) (i_23 : Int32) (i_24 : Int32) (i_25 : Int32) (i_26 : Int32) (i_27 : Int32) (i_28 : Int32) (i_29 : Int32) (i_30 : Int32) (i_31 : Int32) (i_32 : Int32) (i_33 : Int32) (i_34 : Int32) (i_35 : Int32) (i_36 : Int32) (i_37 : Int32) (i_38 : Int32) (i_39 : Int32) (i_40 : Int32) (i_41 : Int32) (i_42 : Int32) (i_43 : Int32) (i_44 : Int32) (i_45 : Int32) (i_46 : Int32) (i_47 : Int32) (i_48 : Int32) (i_49 : Int32) (i_50 : Int32) (i_51 : Int32) (i_52 : Int32) (i_53 : Int32) (h0 : mm_rg i_19 0 601) (h1 : mm_rg i_20 0 601) (h2 : mm_rg i_21 0 601) (h3 : mm_rg i_22 0 601) (h4 : mm_rg i_23 0 601) (h5 : mm_rg i_24 0 10) (h6 : mm_rg i_25 0 99) (h7 : mm_rg i_26 0 9) (h8 : mm_rg i_27 0 3) (h9 : mm_rg i_28 0 6) (h10 : mm_rg i_29 0 30) (h11 : mm_rg i_30 0 10) (h12 : mm_rg i_31 0 99) (h13 : mm_rg i_32 0 9) (h14 : mm_rg i_33 0 3) (h15 : mm_rg i_34 0 6) (h16 : mm_rg i_35 0 30) (h17 : mm_rg i_36 0 10) (h18 : mm_rg i_37 0 99) (h19 : mm_rg i_38 0 9) (h20 : mm_rg i_39 0 3) (h21 : mm_rg i_40 0 6) (h22 : mm_rg i_41 0 30) (h23 : mm_rg i_42 0 10) (h24 : mm_rg i_43 0 99) (h25 : mm_rg i_44 0 9) (h26 : mm_rg i_45 0 3) (h27 : mm_rg i_46 0 6) (h28 : mm_rg i_47 0 30) (h29 : mm_rg i_48 0 10) (h30 : mm_rg i_49 0 99) (h31 : mm_rg i_50 0 9) (h32 : mm_rg i_51 0 3) (h33 : mm_rg i_52 0 6) (h34 : mm_rg i_53 0 30) (h35 : mm_tl i_19 i_27 i_28) (h36 : mm_tl i_20 i_33 i_34) (h37 : mm_tl i_21 i_39 i_40) (h38 : mm_tl i_22 i_45 i_46)  : mm_CI l yX12_drawn (mm_ws yX12_drawn cX12_drawn 3 (some .int)) ({ frames := 2, cells := 0, slots := 0, locals := 45 } : Room) G cy sz [(a_0, .inr (12, [.int i_2, .ref a_1, .ref a_2, .ref a_3, .ref a_4, .ref a_5, .int i_3, .int i_4, .int i_5, .int i_6, .int i_7, .long j_0, .int i_8, .int i_9, .int i_10, .int i_11, .ref a_6, .ref a_7, .ref a_8, .ref a_9, .ref a_10, .ref a_11, .ref a_12, .ref a_13, .ref a_14, .ref a_15, .ref a_16, .ref a_17, .ref a_18, .int i_12, .int i_13, .int i_14, .int i_15, .int i_16, .int i_17, .ref a_19, .int i_18, .ref a_20])), (a_6, .inl (cy 1, 5, .inl (mm_g [i_19, i_20, i_21, i_22, i_23]))), (a_7, .inl (cy 1, 30, .inl (mm_g [i_24, i_25, i_26, i_27, i_28, i_29, i_30, i_31, i_32, i_33, i_34, i_35, i_36, i_37, i_38, i_39, i_40, i_41, i_42, i_43, i_44, i_45, i_46, i_47, i_48, i_49, i_50, i_51, i_52, i_53])))] [.ref a_0, .int i_0, .int i_1] (fun u : Unit => [(a_0, .inr (12, [.int 0, .ref a_1, .ref a_2, .ref a_3, .ref a_4, .ref a_5, .int i_3, .int i_4, .int i_5, .int i_6, .int i_7, .long j_0, .int i_8, .int i_9, .int i_10, .int i_11, .ref a_6, .ref a_7, .ref a_8, .ref a_9, .ref a_10, .ref a_11, .ref a_12, .ref a_13, .ref a_14, .ref a_15, .ref a_16, .ref a_17, .ref a_18, .int i_12, .int i_13, .int i_14, .int i_15, .int i_16, .int i_17, .ref a_19, .int i_18, .ref a_20])), (a_6, .inl (cy 1, 5, .inl (mm_g [i_19, i_20, i_21, i_22, i_23]))), (a_7, .inl (cy 1, 30, .inl (mm_g [i_24, i_25, i_26, i_27, i_28, i_29, i_30, i_31, i_32, i_33, i_34, i_35, i_36, i_37, i_38, i_39, i_40, i_41, i_42, i_43, i_44, i_45, i_46, i_47, i_48, i_49, i_50, i_51, i_52, i_53])))]) (fun (r : Int32) (u : Unit) => True) 0 0 := by
  refine mm_begin (lv := [(0, .ref a_0), (1, .int i_0), (2, .int i_1)]) (by decide) (Nat.le_of_ble_eq_true rfl) rfl ?_
  intro p e s m below meth c A ls R args Q H locs hRe hQ hAe hx hb hr hlocks hml hown hnm hts hsz hA hS hP hK hD hZ hl
  have hRf : R.frames = 2 := by rw [hRe]
  have hRl : R.locals = 45 := by rw [hRe]
  have hRc : R.cells = 0 := by rw [hRe]
  have hRs : R.slots = 0 := by rw [hRe]
  refine lv_aload_n hx hb dX12_drawn_0 rfl (lv_at hl 0 rfl) ?_
  refine lv_iconst (v := 0) hx hb dX12_drawn_1 (by decide) ?_
  refine va_put (D := G) (ci := 12) (v := .int 0) (ty := tyX12 0) (C := RX12) (T := TX12) (N := 38) hx hb hts (mm_i inlX12) tyX12 tyX12_ok nmX12 hown hK.1 hP hD hS 0 rfl rfl 0 (by decide) (mm_h hts mm_w177) (fun _ h9 => h9) rfl (tyX12_ok 0 (by decide)) rfl rfl (Nat.le_of_ble_eq_true rfl) dX12_drawn_2 ?_
  clear hP hD hS
  clear H locs
  intro H locs (hP : va_P G vwCl [(a_0, .inr (12, [.int 0, .ref a_1, .ref a_2, .ref a_3, .ref a_4, .ref a_5, .int i_3, .int i_4, .int i_5, .int i_6, .int i_7, .long j_0, .int i_8, .int i_9, .int i_10, .int i_11, .ref a_6, .ref a_7, .ref a_8, .ref a_9, .ref a_10, .ref a_11, .ref a_12, .ref a_13, .ref a_14, .ref a_15, .ref a_16, .ref a_17, .ref a_18, .int i_12, .int i_13, .int i_14, .int i_15, .int i_16, .int i_17, .ref a_19, .int i_18, .ref a_20])), (a_6, .inl (cy 1, 5, .inl (mm_g [i_19, i_20, i_21, i_22, i_23]))), (a_7, .inl (cy 1, 30, .inl (mm_g [i_24, i_25, i_26, i_27, i_28, i_29, i_30, i_31, i_32, i_33, i_34, i_35, i_36, i_37, i_38, i_39, i_40, i_41, i_42, i_43, i_44, i_45, i_46, i_47, i_48, i_49, i_50, i_51, i_52, i_53])))] H) (hD : va_D A [(a_0, .inr (12, [.int 0, .ref a_1, .ref a_2, .ref a_3, .ref a_4, .ref a_5, .int i_3, .int i_4, .int i_5, .int i_6, .int i_7, .long j_0, .int i_8, .int i_9, .int i_10, .int i_11, .ref a_6, .ref a_7, .ref a_8, .ref a_9, .ref a_10, .ref a_11, .ref a_12, .ref a_13, .ref a_14, .ref a_15, .ref a_16, .ref a_17, .ref a_18, .int i_12, .int i_13, .int i_14, .int i_15, .int i_16, .int i_17, .ref a_19, .int i_18, .ref a_20])), (a_6, .inl (cy 1, 5, .inl (mm_g [i_19, i_20, i_21, i_22, i_23]))), (a_7, .inl (cy 1, 30, .inl (mm_g [i_24, i_25, i_26, i_27, i_28, i_29, i_30, i_31, i_32, i_33, i_34, i_35, i_36, i_37, i_38, i_39, i_40, i_41, i_42, i_43, i_44, i_45, i_46, i_47, i_48, i_49, i_50, i_51, i_52, i_53])))]) hS
  refine lv_aload_n hx hb dX12_drawn_5 rfl (lv_at hl 0 rfl) ?_
  refine mm_finir (va_runV (As := []) (rest := []) ⟨hx, hb, hml, hown, hts⟩ (M99_X12_isBook l G cy H.size a_0 0 a_1 a_2 a_3 a_4 a_5 i_3 i_4 i_5 i_6 i_7 j_0 i_8 i_9 i_10 i_11 a_6 a_7 a_8 a_9 a_10 a_11 a_12 a_13 a_14 a_15 a_16 a_17 a_18 i_12 i_13 i_14 i_15 i_16 i_17 a_19 i_18 a_20 i_19 i_20 i_21 i_22 i_23 h0 h1 h2 h3 h4) (cwV 0 hts (mm_gV mm_w653 mm_w654 mm_w655 mm_w5 mm_w656) rfl rfl rfl hd_X12_isBook ⟨by rw [hRf]; exact Nat.le_of_ble_eq_true rfl, by rw [hRl]; exact Nat.le_of_ble_eq_true rfl⟩) (mm_preV hK hZ hS hA hP hD [0, 1] rfl rfl 0 rfl rfl rfl) rfl rfl hl.1 rfl (lv_room (Nat.le_of_ble_eq_true rfl)) dX12_drawn_6 ⟨by rw [hRc]; exact Nat.le_of_ble_eq_true rfl, by rw [hRs]; exact Nat.le_of_ble_eq_true rfl⟩) hP hD hS hA [0, 1] rfl (fun _ => rfl) ?_
  clear hP hD hS
  clear H locs
  intro v1 _u H locs hw hP hD hS
  rcases hw with rfl | rfl
  · refine lv_if_eq (tgt := 41) hx hb dX12_drawn_9 (by decide) (fun c2 => ?_) (fun c2 => ?_)
    · refine lv_bipush (v := (-2)) hx hb dX12_drawn_41 (by decide) ?_
      subst hAe
      rw [hQ]
      exact W.iret (v := (-2)) hx hb hr (fun t ht hW => ⟨⟨(-2), (), rfl, trivial, by rw [ht]; exact hP, hK.warm hW, hD⟩, hS.F ht⟩) hS.2.2 dX12_drawn_43
    · have q3 := mm_neL (lo := 1) (mm_ne c2) mm_k0 mm_k0 (by decide) (by decide)
      exact mm_no q3 (by decide)
  · refine lv_if_eq (tgt := 41) hx hb dX12_drawn_9 (by decide) (fun c4 => ?_) (fun c4 => ?_)
    · exact mm_eqN c4.symm mm_k0 mm_k1 (by decide)
    · refine lv_iload_n hx hb dX12_drawn_12 rfl (lv_at hl 1 rfl) ?_
      refine mm_finir (va_runS (As := [.int i_0]) (rest := []) ⟨hx, hb, hml, hown, hts⟩ (M107_X12_isSeed l G cy H.size i_0 ) (va_cwS 1 hts (mm_gS mm_w1608 mm_w1609 mm_w5 mm_w1610) rfl rfl rfl hs_X12_isSeed ⟨by rw [hRf]; exact Nat.le_of_ble_eq_true rfl, by rw [hRl]; exact Nat.le_of_ble_eq_true rfl⟩) (mm_preS hK hZ hS hA hP hD [] rfl rfl) rfl rfl hl.1 rfl (lv_room (Nat.le_of_ble_eq_true rfl)) dX12_drawn_13 ⟨by rw [hRc]; exact Nat.le_of_ble_eq_true rfl, by rw [hRs]; exact Nat.le_of_ble_eq_true rfl⟩) hP hD hS hA [] rfl (fun _ => rfl) ?_
      clear hP hD hS
      clear H locs
      intro v5 _u H locs hw hP hD hS
      rcases hw with rfl | ⟨rfl, w6⟩
      · refine lv_if_eq (tgt := 41) hx hb dX12_drawn_16 (by decide) (fun c7 => ?_) (fun c7 => ?_)
        · refine lv_bipush (v := (-2)) hx hb dX12_drawn_41 (by decide) ?_
          subst hAe
          rw [hQ]
          exact W.iret (v := (-2)) hx hb hr (fun t ht hW => ⟨⟨(-2), (), rfl, trivial, by rw [ht]; exact hP, hK.warm hW, hD⟩, hS.F ht⟩) hS.2.2 dX12_drawn_43
        · have q8 := mm_neL (lo := 1) (mm_ne c7) mm_k0 mm_k0 (by decide) (by decide)
          exact mm_no q8 (by decide)
      · refine lv_if_eq (tgt := 41) hx hb dX12_drawn_16 (by decide) (fun c9 => ?_) (fun c9 => ?_)
        · exact mm_eqN c9.symm mm_k0 mm_k1 (by decide)
        · refine lv_iload_n hx hb dX12_drawn_19 rfl (lv_at hl 2 rfl) ?_
          obtain ⟨v10, ev10⟩ : ∃ y : Int64, y = i_1.toInt64 := ⟨_, rfl⟩
          refine lv_i2l hx hb dX12_drawn_20 ev10.symm ?_
          have rv10 : mm_rl v10 (-2147483648) 2147483647 := mm_i2l ev10 (mm_top i_1)
          refine lv_lconst (v := 0) hx hb dX12_drawn_21 (by decide) ?_
          refine lv_ldc2 (v := 7) hx hb hown (mm_h hts mm_w1399) dX12_drawn_22 ?_
          refine mm_finir (va_runS (As := [.long v10, .long 0, .long 7]) (rest := []) ⟨hx, hb, hml, hown, hts⟩ (M7_X12_in l G cy H.size v10 7 ) (va_cwS 3 hts (mm_gS mm_w191 mm_w192 mm_w5 mm_w193) rfl rfl rfl hs_X12_in ⟨by rw [hRf]; exact Nat.le_of_ble_eq_true rfl, by rw [hRl]; exact Nat.le_of_ble_eq_true rfl⟩) (mm_preS hK hZ hS hA hP hD [] rfl rfl) rfl rfl hl.1 rfl (lv_room (Nat.le_of_ble_eq_true rfl)) dX12_drawn_25 ⟨by rw [hRc]; exact Nat.le_of_ble_eq_true rfl, by rw [hRs]; exact Nat.le_of_ble_eq_true rfl⟩) hP hD hS hA [] rfl (fun _ => rfl) ?_
          clear hP hD hS
          clear H locs
          intro v11 _u H locs hw hP hD hS
          rcases hw with ⟨rfl, w12⟩ | ⟨rfl, w13, w14, w15, w16⟩
          · refine lv_if_eq (tgt := 41) hx hb dX12_drawn_28 (by decide) (fun c17 => ?_) (fun c17 => ?_)
            · refine lv_bipush (v := (-2)) hx hb dX12_drawn_41 (by decide) ?_
              subst hAe
              rw [hQ]
              exact W.iret (v := (-2)) hx hb hr (fun t ht hW => ⟨⟨(-2), (), rfl, trivial, by rw [ht]; exact hP, hK.warm hW, hD⟩, hS.F ht⟩) hS.2.2 dX12_drawn_43
            · have q18 := mm_neL (lo := 1) (mm_ne c17) mm_k0 mm_k0 (by decide) (by decide)
              exact mm_no q18 (by decide)
          · have q19 := mm_meetl (lo := 0) (hi := 2147483647) w13 rv10 (by decide)
            have q20 := mm_meet (lo := 0) (hi := 2147483647) (mm_l2x ev10 q19) (mm_top i_1) (by decide)
            have q21 := mm_leLl w15 q19 mm_kl7
            have q22 := mm_meet (lo := 0) (hi := 7) (mm_l2x ev10 q21) q20 (by decide)
            refine lv_if_eq (tgt := 41) hx hb dX12_drawn_28 (by decide) (fun c23 => ?_) (fun c23 => ?_)
            · exact mm_eqN c23.symm mm_k0 mm_k1 (by decide)
            · refine lv_aload_n hx hb dX12_drawn_31 rfl (lv_at hl 0 rfl) ?_
              refine lv_iload_n hx hb dX12_drawn_32 rfl (lv_at hl 1 rfl) ?_
              obtain ⟨v24, ev24⟩ : ∃ y : Int64, y = i_0.toInt64 := ⟨_, rfl⟩
              refine lv_i2l hx hb dX12_drawn_33 ev24.symm ?_
              have rv24 : mm_rl v24 0 2000000000 := mm_i2l ev24 w6
              refine lv_iload_n hx hb dX12_drawn_34 rfl (lv_at hl 2 rfl) ?_
              refine mm_finir (va_runV (As := [.long v24, .int i_1]) (rest := []) ⟨hx, hb, hml, hown, hts⟩ (M108_X12_drawnOf l G cy H.size a_0 v24 i_1 0 a_1 a_2 a_3 a_4 a_5 i_3 i_4 i_5 i_6 i_7 j_0 i_8 i_9 i_10 i_11 a_6 a_7 a_8 a_9 a_10 a_11 a_12 a_13 a_14 a_15 a_16 a_17 a_18 i_12 i_13 i_14 i_15 i_16 i_17 a_19 i_18 a_20 i_24 i_25 i_26 i_27 i_28 i_29 i_30 i_31 i_32 i_33 i_34 i_35 i_36 i_37 i_38 i_39 i_40 i_41 i_42 i_43 i_44 i_45 i_46 i_47 i_48 i_49 i_50 i_51 i_52 i_53 rv24 q22 h5 h6 h7 h8 h9 h10 h11 h12 h13 h14 h15 h16 h17 h18 h19 h20 h21 h22 h23 h24 h25 h26 h27 h28 h29 h30 h31 h32 h33 h34) (cwV 2 hts (mm_gV mm_w1612 mm_w1613 mm_w1614 mm_w5 mm_w1615) rfl rfl rfl hd_X12_drawnOf ⟨by rw [hRf]; exact Nat.le_of_ble_eq_true rfl, by rw [hRl]; exact Nat.le_of_ble_eq_true rfl⟩) (mm_preV hK hZ hS hA hP hD [0, 2] rfl rfl 0 rfl rfl rfl) rfl rfl hl.1 rfl (lv_room (Nat.le_of_ble_eq_true rfl)) dX12_drawn_35 ⟨by rw [hRc]; exact Nat.le_of_ble_eq_true rfl, by rw [hRs]; exact Nat.le_of_ble_eq_true rfl⟩) hP hD hS hA [0, 2] rfl (fun _ => rfl) ?_
              clear hP hD hS
              clear H locs
              intro v25 _u H locs hw hP hD hS
              refine lv_goto (tgt := 43) hx hb dX12_drawn_38 (by decide) ?_
              subst hAe
              rw [hQ]
              exact W.iret (v := v25) hx hb hr (fun t ht hW => ⟨⟨v25, (), rfl, trivial, by rw [ht]; exact hP, hK.warm hW, hD⟩, hS.F ht⟩) hS.2.2 dX12_drawn_43

set_option maxHeartbeats 4000000 in
set_option maxRecDepth 100000 in
theorem M110_X12_rate (l : Launch) (G : va_G) (cy : Nat → ClassId) (sz : Nat) (a_0 : Nat) (i_0 : Int32) (i_1 : Int32) (i_2 : Int32) (a_1 : Nat) (a_2 : Nat) (a_3 : Nat) (a_4 : Nat) (a_5 : Nat) (i_3 : Int32) (i_4 : Int32) (i_5 : Int32) (i_6 : Int32) (i_7 : Int32) (j_0 : Int64) (i_8 : Int32) (i_9 : Int32) (i_10 : Int32) (i_11 : Int32) (a_6 : Nat) (a_7 : Nat) (a_8 : Nat) (a_9 : Nat) (a_10 : Nat) (a_11 : Nat) (a_12 : Nat) (a_13 : Nat) (a_14 : Nat) (a_15 : Nat) (a_16 : Nat) (a_17 : Nat) (a_18 : Nat) (i_12 : Int32) (i_13 : Int32) (i_14 : Int32) (i_15 : Int32) (i_16 : Int32) (i_17 : Int32) (a_19 : Nat) (i_18 : Int32) (a_20 : Nat) (i_19 : Int32) (i_20 : Int32) (i_21 : Int32) (i_22 : Int32) (i_23 : Int32) (i_24 : Int32) (i_25 : Int32) (i_26 : Int32) (i_27 : Int32) (i_28 : Int32) (i_29 : Int32) (i_30 : Int32) (i_31 : Int32) (i_32 : Int32) (i_33 : Int32) (i_34 : Int32) (i_35 : Int32) (i_36 : Int32) (i_37 : Int32) (i_38 : Int32) (i_39 : Int32) (i_40 : Int32) (i_41 : Int32) (i_42 : Int32) (i_43 : Int32) (i_44 : Int32) (i_45 : Int32) (i_46 : Int32) (i_47 : Int32) (i_48 : Int32) (f_0 : Nat → Int32) (h0 : mm_rg i_19 0 10) (h1 : mm_rg i_20 0 99) (h2 : mm_rg i_21 0 9) (h3 : mm_rg i_22 0 3) (h4 : mm_rg i_23 0 6) (h5 : mm_rg i_24 0 30) (h6 : mm_rg i_25 0 10) (h7 : mm_rg i_26 0 99) (h8 : mm_rg i_27 0 9) (h9 : mm_rg i_28 0 3) (h10 : mm_rg i_29 0 6) (h11 : mm_rg i_30 0 30) (h12 : mm_rg i_31 0 10) (h13 : mm_rg i_32 0 99) (h14 : mm_rg i_33 0 9) (h15 : mm_rg i_34 0 3) (h16 : mm_rg i_35 0 6) (h17 : mm_rg i_36 0 30) (h18 : mm_rg i_37 0 10) (h19 : mm_rg i_38 0 99) (h20 : mm_rg i_39 0 9) (h21 : mm_rg i_40 0 3) (h22 : mm_rg i_41 0 6) (h23 : mm_rg i_42 0 30) (h24 : mm_rg i_43 0 10) (h25 : mm_rg i_44 0 99) (h26 : mm_rg i_45 0 9) (h27 : mm_rg i_46 0 3) (h28 : mm_rg i_47 0 6) (h29 : mm_rg i_48 0 30) (h30 : mm_ar f_0 0 99)  : mm_CI l yX12_rate (mm_ws yX12_rate cX12_rate 4 (some .int)) ({ frames := 1, cells := 0, slots := 0, locals := 25 } : Room) G cy sz [(a_0, .inr (12, [.int i_2, .ref a_1, .ref a_2, .ref a_3, .ref a_4, .ref a_5, .int i_3, .int i_4, .int i_5, .int i_6, .int i_7, .long j_0, .int i_8, .int i_9, .int i_10, .int i_11, .ref a_6, .ref a_7, .ref a_8, .ref a_9, .ref a_10, .ref a_11, .ref a_12, .ref a_13, .ref a_14, .ref a_15, .ref a_16, .ref a_17, .ref a_18, .int i_12, .int i_13, .int i_14, .int i_15, .int i_16, .int i_17, .ref a_19, .int i_18, .ref a_20])), (a_7, .inl (cy 1, 30, .inl (mm_g [i_19, i_20, i_21, i_22, i_23, i_24, i_25, i_26, i_27, i_28, i_29, i_30, i_31, i_32, i_33, i_34, i_35, i_36, i_37, i_38, i_39, i_40, i_41, i_42, i_43, i_44, i_45, i_46, i_47, i_48]))), (a_8, .inl (cy 1, 90, .inl f_0))] [.ref a_0, .int i_0, .int i_1] (fun u : (Nat → Int32) => [(a_0, .inr (12, [.int 0, .ref a_1, .ref a_2, .ref a_3, .ref a_4, .ref a_5, .int i_3, .int i_4, .int i_5, .int i_6, .int i_7, .long j_0, .int i_8, .int i_9, .int i_10, .int i_11, .ref a_6, .ref a_7, .ref a_8, .ref a_9, .ref a_10, .ref a_11, .ref a_12, .ref a_13, .ref a_14, .ref a_15, .ref a_16, .ref a_17, .ref a_18, .int i_12, .int i_13, .int i_14, .int i_15, .int i_16, .int i_17, .ref a_19, .int i_18, .ref a_20])), (a_7, .inl (cy 1, 30, .inl (mm_g [i_19, i_20, i_21, i_22, i_23, i_24, i_25, i_26, i_27, i_28, i_29, i_30, i_31, i_32, i_33, i_34, i_35, i_36, i_37, i_38, i_39, i_40, i_41, i_42, i_43, i_44, i_45, i_46, i_47, i_48]))), (a_8, .inl (cy 1, 90, .inl u))]) (fun (r : Int32) (u : (Nat → Int32)) => mm_ar u 0 99 ∧ mm_rg r (-5) 99) 0 0 := by
  refine mm_begin (lv := [(0, .ref a_0), (1, .int i_0), (2, .int i_1)]) (by decide) (Nat.le_of_ble_eq_true rfl) rfl ?_
  intro p e s m below meth c A ls R args Q H locs hRe hQ hAe hx hb hr hlocks hml hown hnm hts hsz hA hS hP hK hD hZ hl
  have hRf : R.frames = 1 := by rw [hRe]
  have hRl : R.locals = 25 := by rw [hRe]
  have hRc : R.cells = 0 := by rw [hRe]
  have hRs : R.slots = 0 := by rw [hRe]
  refine lv_aload_n hx hb dX12_rate_0 rfl (lv_at hl 0 rfl) ?_
  refine lv_iconst (v := 0) hx hb dX12_rate_1 (by decide) ?_
  refine va_put (D := G) (ci := 12) (v := .int 0) (ty := tyX12 0) (C := RX12) (T := TX12) (N := 38) hx hb hts (mm_i inlX12) tyX12 tyX12_ok nmX12 hown hK.1 hP hD hS 0 rfl rfl 0 (by decide) (mm_h hts mm_w177) (fun _ h9 => h9) rfl (tyX12_ok 0 (by decide)) rfl rfl (Nat.le_of_ble_eq_true rfl) dX12_rate_2 ?_
  clear hP hD hS
  clear H locs
  intro H locs (hP : va_P G vwCl [(a_0, .inr (12, [.int 0, .ref a_1, .ref a_2, .ref a_3, .ref a_4, .ref a_5, .int i_3, .int i_4, .int i_5, .int i_6, .int i_7, .long j_0, .int i_8, .int i_9, .int i_10, .int i_11, .ref a_6, .ref a_7, .ref a_8, .ref a_9, .ref a_10, .ref a_11, .ref a_12, .ref a_13, .ref a_14, .ref a_15, .ref a_16, .ref a_17, .ref a_18, .int i_12, .int i_13, .int i_14, .int i_15, .int i_16, .int i_17, .ref a_19, .int i_18, .ref a_20])), (a_7, .inl (cy 1, 30, .inl (mm_g [i_19, i_20, i_21, i_22, i_23, i_24, i_25, i_26, i_27, i_28, i_29, i_30, i_31, i_32, i_33, i_34, i_35, i_36, i_37, i_38, i_39, i_40, i_41, i_42, i_43, i_44, i_45, i_46, i_47, i_48]))), (a_8, .inl (cy 1, 90, .inl f_0))] H) (hD : va_D A [(a_0, .inr (12, [.int 0, .ref a_1, .ref a_2, .ref a_3, .ref a_4, .ref a_5, .int i_3, .int i_4, .int i_5, .int i_6, .int i_7, .long j_0, .int i_8, .int i_9, .int i_10, .int i_11, .ref a_6, .ref a_7, .ref a_8, .ref a_9, .ref a_10, .ref a_11, .ref a_12, .ref a_13, .ref a_14, .ref a_15, .ref a_16, .ref a_17, .ref a_18, .int i_12, .int i_13, .int i_14, .int i_15, .int i_16, .int i_17, .ref a_19, .int i_18, .ref a_20])), (a_7, .inl (cy 1, 30, .inl (mm_g [i_19, i_20, i_21, i_22, i_23, i_24, i_25, i_26, i_27, i_28, i_29, i_30, i_31, i_32, i_33, i_34, i_35, i_36, i_37, i_38, i_39, i_40, i_41, i_42, i_43, i_44, i_45, i_46, i_47, i_48]))), (a_8, .inl (cy 1, 90, .inl f_0))]) hS
  refine lv_iload_n hx hb dX12_rate_5 rfl (lv_at hl 1 rfl) ?_
  obtain ⟨v1, ev1⟩ : ∃ y : Int64, y = i_0.toInt64 := ⟨_, rfl⟩
  refine lv_i2l hx hb dX12_rate_6 ev1.symm ?_
  have rv1 : mm_rl v1 (-2147483648) 2147483647 := mm_i2l ev1 (mm_top i_0)
  refine lv_lconst (v := 0) hx hb dX12_rate_7 (by decide) ?_
  refine lv_aload_n hx hb dX12_rate_8 rfl (lv_at hl 0 rfl) ?_
  refine mm_finir (va_runV (As := []) (rest := [.long 0, .long v1]) ⟨hx, hb, hml, hown, hts⟩ (M92_X12_senses l G cy H.size a_0 0 a_1 a_2 a_3 a_4 a_5 i_3 i_4 i_5 i_6 i_7 j_0 i_8 i_9 i_10 i_11 a_6 a_7 a_8 a_9 a_10 a_11 a_12 a_13 a_14 a_15 a_16 a_17 a_18 i_12 i_13 i_14 i_15 i_16 i_17 a_19 i_18 a_20 i_19 i_20 i_21 i_22 i_23 i_24 i_25 i_26 i_27 i_28 i_29 i_30 i_31 i_32 i_33 i_34 i_35 i_36 i_37 i_38 i_39 i_40 i_41 i_42 i_43 i_44 i_45 i_46 i_47 i_48 h0 h1 h2 h3 h4 h5 h6 h7 h8 h9 h10 h11 h12 h13 h14 h15 h16 h17 h18 h19 h20 h21 h22 h23 h24 h25 h26 h27 h28 h29) (cwV 0 hts (mm_gV mm_w588 mm_w589 mm_w590 mm_w5 mm_w591) rfl rfl rfl hd_X12_senses ⟨by rw [hRf]; exact Nat.le_of_ble_eq_true rfl, by rw [hRl]; exact Nat.le_of_ble_eq_true rfl⟩) (mm_preV hK hZ hS hA hP hD [0, 1] rfl rfl 0 rfl rfl rfl) rfl rfl hl.1 rfl (lv_room (Nat.le_of_ble_eq_true rfl)) dX12_rate_9 ⟨by rw [hRc]; exact Nat.le_of_ble_eq_true rfl, by rw [hRs]; exact Nat.le_of_ble_eq_true rfl⟩) hP hD hS hA [0, 1] rfl (fun _ => rfl) ?_
  clear hP hD hS
  clear H locs
  intro v2 _u H locs hw hP hD hS
  subst hw
  obtain ⟨v3, ev3⟩ : ∃ y : Int64, y = i_21.toInt64 := ⟨_, rfl⟩
  refine lv_i2l hx hb dX12_rate_12 ev3.symm ?_
  have rv3 : mm_rl v3 0 9 := mm_i2l ev3 h2
  refine lv_lconst (v := 1) hx hb dX12_rate_13 (by decide) ?_
  refine lv_lsub hx hb dX12_rate_14 ?_
  refine lv_topl (fun v4 ev4 => ?_)
  have rv4 : mm_rl v4 (-1) 8 := mm_subl ev4 rv3 mm_kl1 (by decide) (by decide)
  have tv4 := mm_sublEc ev4 rv3 mm_kl1 (by decide) (k := 1) (by decide)
  refine mm_finir (va_runS (As := [.long v1, .long 0, .long v4]) (rest := []) ⟨hx, hb, hml, hown, hts⟩ (M7_X12_in l G cy H.size v1 v4 ) (va_cwS 3 hts (mm_gS mm_w191 mm_w192 mm_w5 mm_w193) rfl rfl rfl hs_X12_in ⟨by rw [hRf]; exact Nat.le_of_ble_eq_true rfl, by rw [hRl]; exact Nat.le_of_ble_eq_true rfl⟩) (mm_preS hK hZ hS hA hP hD [] rfl rfl) rfl rfl hl.1 rfl (lv_room (Nat.le_of_ble_eq_true rfl)) dX12_rate_15 ⟨by rw [hRc]; exact Nat.le_of_ble_eq_true rfl, by rw [hRs]; exact Nat.le_of_ble_eq_true rfl⟩) hP hD hS hA [] rfl (fun _ => rfl) ?_
  clear hP hD hS
  clear H locs
  intro v5 _u H locs hw hP hD hS
  rcases hw with ⟨rfl, w6⟩ | ⟨rfl, w7, w8, w9, w10⟩
  · refine lv_if_eq (tgt := 45) hx hb dX12_rate_18 (by decide) (fun c11 => ?_) (fun c11 => ?_)
    · refine lv_bipush (v := (-2)) hx hb dX12_rate_45 (by decide) ?_
      subst hAe
      rw [hQ]
      exact W.iret (v := (-2)) hx hb hr (fun t ht hW => ⟨⟨(-2), f_0, rfl, ⟨h30, (mm_wk mm_km2 (by decide))⟩, by rw [ht]; exact hP, hK.warm hW, hD⟩, hS.F ht⟩) hS.2.2 dX12_rate_47
    · have q12 := mm_neL (lo := 1) (mm_ne c11) mm_k0 mm_k0 (by decide) (by decide)
      exact mm_no q12 (by decide)
  · have q13 := mm_meetl (lo := 0) (hi := 2147483647) w7 rv1 (by decide)
    have q14 := mm_meet (lo := 0) (hi := 2147483647) (mm_l2x ev1 q13) (mm_top i_0) (by decide)
    have q15 := mm_meetl (lo := 0) (hi := 8) w8 rv4 (by decide)
    have q16 := mm_leLl w9 q13 q15
    have q17 := mm_meet (lo := 0) (hi := 8) (mm_l2x ev1 q16) q14 (by decide)
    have w18 : (i_0 : Int32).toInt < (i_21 : Int32).toInt := by have := (mm_i2lE ev1); have := (mm_i2lE ev3); have := tv4; have := w9; omega
    have q19 := mm_ltR (lo := 1) w18 q17 h2 (by decide)
    refine lv_if_eq (tgt := 45) hx hb dX12_rate_18 (by decide) (fun c20 => ?_) (fun c20 => ?_)
    · exact mm_eqN c20.symm mm_k0 mm_k1 (by decide)
    · refine lv_aload_n hx hb dX12_rate_21 rfl (lv_at hl 0 rfl) ?_
      refine va_get (D := G) (ci := 12) (v := .ref a_8) (C := RX12) (T := TX12) (N := 38) hx hb hts (mm_i inlX12) hown hK.1 hP 0 rfl rfl 18 (by decide) (mm_h hts mm_w150) (fun _ h9 => h9) rfl dX12_rate_22 ?_
      refine lv_iconst (v := 2) hx hb dX12_rate_25 (by decide) ?_
      refine lv_iload_n hx hb dX12_rate_26 rfl (lv_at hl 1 rfl) ?_
      refine lv_imul hx hb dX12_rate_27 ?_
      refine lv_topi (fun v21 ev21 => ?_)
      have rv21 : mm_rg v21 0 16 := mm_mul ev21 mm_k2 q17 (by decide) (by decide)
      have tv21 := mm_mulEc ev21 mm_k2 q17 (by decide) (k := 2) (by decide)
      refine va_iald hx hb hK.1 hP 2 1 rfl rfl (mm_in rv21 (by decide)) dX12_rate_28 ?_
      refine lv_topi (fun v22 ev22 => ?_)
      have rv22 : mm_rg v22 0 99 := mm_eqv ev22 (h30 _)
      refine lv_iconst (v := 1) hx hb dX12_rate_29 (by decide) ?_
      refine lv_icmp_gt (tgt := 45) hx hb dX12_rate_30 (by decide) (fun c23 => ?_) (fun c23 => ?_)
      · have q24 := mm_ltR (lo := 2) (mm_lt c23) mm_k1 rv22 (by decide)
        refine lv_bipush (v := (-2)) hx hb dX12_rate_45 (by decide) ?_
        subst hAe
        rw [hQ]
        exact W.iret (v := (-2)) hx hb hr (fun t ht hW => ⟨⟨(-2), f_0, rfl, ⟨h30, (mm_wk mm_km2 (by decide))⟩, by rw [ht]; exact hP, hK.warm hW, hD⟩, hS.F ht⟩) hS.2.2 dX12_rate_47
      · have q25 := mm_leL (mm_nlt c23) rv22 mm_k1
        refine lv_iload_n hx hb dX12_rate_33 rfl (lv_at hl 2 rfl) ?_
        obtain ⟨v26, ev26⟩ : ∃ y : Int64, y = i_1.toInt64 := ⟨_, rfl⟩
        refine lv_i2l hx hb dX12_rate_34 ev26.symm ?_
        have rv26 : mm_rl v26 (-2147483648) 2147483647 := mm_i2l ev26 (mm_top i_1)
        refine lv_lconst (v := 0) hx hb dX12_rate_35 (by decide) ?_
        refine lv_ldc2 (v := 99) hx hb hown (mm_h hts mm_w1566) dX12_rate_36 ?_
        refine mm_finir (va_runS (As := [.long v26, .long 0, .long 99]) (rest := []) ⟨hx, hb, hml, hown, hts⟩ (M7_X12_in l G cy H.size v26 99 ) (va_cwS 3 hts (mm_gS mm_w191 mm_w192 mm_w5 mm_w193) rfl rfl rfl hs_X12_in ⟨by rw [hRf]; exact Nat.le_of_ble_eq_true rfl, by rw [hRl]; exact Nat.le_of_ble_eq_true rfl⟩) (mm_preS hK hZ hS hA hP hD [] rfl rfl) rfl rfl hl.1 rfl (lv_room (Nat.le_of_ble_eq_true rfl)) dX12_rate_39 ⟨by rw [hRc]; exact Nat.le_of_ble_eq_true rfl, by rw [hRs]; exact Nat.le_of_ble_eq_true rfl⟩) hP hD hS hA [] rfl (fun _ => rfl) ?_
        clear hP hD hS
        clear H locs
        intro v27 _u H locs hw hP hD hS
        rcases hw with ⟨rfl, w28⟩ | ⟨rfl, w29, w30, w31, w32⟩
        · refine lv_if_ne (tgt := 48) hx hb dX12_rate_42 (by decide) (fun c33 => ?_) (fun c33 => ?_)
          · have q34 := mm_neL (lo := 1) (mm_ne c33) mm_k0 mm_k0 (by decide) (by decide)
            exact mm_no q34 (by decide)
          · refine lv_bipush (v := (-2)) hx hb dX12_rate_45 (by decide) ?_
            subst hAe
            rw [hQ]
            exact W.iret (v := (-2)) hx hb hr (fun t ht hW => ⟨⟨(-2), f_0, rfl, ⟨h30, (mm_wk mm_km2 (by decide))⟩, by rw [ht]; exact hP, hK.warm hW, hD⟩, hS.F ht⟩) hS.2.2 dX12_rate_47
        · have q35 := mm_meetl (lo := 0) (hi := 2147483647) w29 rv26 (by decide)
          have q36 := mm_meet (lo := 0) (hi := 2147483647) (mm_l2x ev26 q35) (mm_top i_1) (by decide)
          have q37 := mm_leLl w31 q35 mm_kl99
          have q38 := mm_meet (lo := 0) (hi := 99) (mm_l2x ev26 q37) q36 (by decide)
          refine lv_if_ne (tgt := 48) hx hb dX12_rate_42 (by decide) (fun c39 => ?_) (fun c39 => ?_)
          · refine lv_aload_n hx hb dX12_rate_48 rfl (lv_at hl 0 rfl) ?_
            refine va_get (D := G) (ci := 12) (v := .ref a_7) (C := RX12) (T := TX12) (N := 38) hx hb hts (mm_i inlX12) hown hK.1 hP 0 rfl rfl 17 (by decide) (mm_h hts mm_w149) (fun _ h9 => h9) rfl dX12_rate_49 ?_
            refine lv_iconst (v := 5) hx hb dX12_rate_52 (by decide) ?_
            refine va_iald hx hb hK.1 hP 1 1 rfl rfl (mm_in mm_k5 (by decide)) dX12_rate_53 ?_
            refine W.eq (g2 := F0 m 54 ls [.int i_24]) rfl ?_
            refine lv_if_le (tgt := 60) hx hb dX12_rate_54 (by decide) (fun c40 => ?_) (fun c40 => ?_)
            · have q41 := mm_leL (mm_le c40) h5 mm_k0
              refine lv_aload_n hx hb dX12_rate_60 rfl (lv_at hl 0 rfl) ?_
              refine va_get (D := G) (ci := 12) (v := .ref a_8) (C := RX12) (T := TX12) (N := 38) hx hb hts (mm_i inlX12) hown hK.1 hP 0 rfl rfl 18 (by decide) (mm_h hts mm_w150) (fun _ h9 => h9) rfl dX12_rate_61 ?_
              refine lv_iconst (v := 2) hx hb dX12_rate_64 (by decide) ?_
              refine lv_iload_n hx hb dX12_rate_65 rfl (lv_at hl 1 rfl) ?_
              refine lv_imul hx hb dX12_rate_66 ?_
              refine lv_topi (fun v42 ev42 => ?_)
              have rv42 : mm_rg v42 0 16 := mm_mul ev42 mm_k2 q17 (by decide) (by decide)
              have tv42 := mm_mulEc ev42 mm_k2 q17 (by decide) (k := 2) (by decide)
              refine lv_iconst (v := 1) hx hb dX12_rate_67 (by decide) ?_
              refine lv_iadd hx hb dX12_rate_68 ?_
              refine lv_topi (fun v43 ev43 => ?_)
              have rv43 : mm_rg v43 1 17 := mm_add ev43 rv42 mm_k1 (by decide) (by decide)
              have tv43 := mm_addEc ev43 rv42 mm_k1 (by decide) (k := 1) (by decide)
              refine va_iald hx hb hK.1 hP 2 1 rfl rfl (mm_in rv43 (by decide)) dX12_rate_69 ?_
              refine lv_topi (fun v44 ev44 => ?_)
              have rv44 : mm_rg v44 0 99 := mm_eqv ev44 (h30 _)
              refine lv_istore_n (lv' := [(3, .int v44), (0, .ref a_0), (1, .int i_0), (2, .int i_1)]) hx hb dX12_rate_70 rfl hl (by decide) rfl ?_
              clear hl
              clear ls
              intro ls hl
              refine lv_aload_n hx hb dX12_rate_71 rfl (lv_at hl 1 rfl) ?_
              refine va_get (D := G) (ci := 12) (v := .ref a_8) (C := RX12) (T := TX12) (N := 38) hx hb hts (mm_i inlX12) hown hK.1 hP 0 rfl rfl 18 (by decide) (mm_h hts mm_w150) (fun _ h9 => h9) rfl dX12_rate_72 ?_
              refine lv_iconst (v := 2) hx hb dX12_rate_75 (by decide) ?_
              refine lv_iload_n hx hb dX12_rate_76 rfl (lv_at hl 2 rfl) ?_
              refine lv_imul hx hb dX12_rate_77 ?_
              refine lv_topi (fun v45 ev45 => ?_)
              have rv45 : mm_rg v45 0 16 := mm_mul ev45 mm_k2 q17 (by decide) (by decide)
              have tv45 := mm_mulEc ev45 mm_k2 q17 (by decide) (k := 2) (by decide)
              refine lv_iconst (v := 1) hx hb dX12_rate_78 (by decide) ?_
              refine lv_iadd hx hb dX12_rate_79 ?_
              refine lv_topi (fun v46 ev46 => ?_)
              have rv46 : mm_rg v46 1 17 := mm_add ev46 rv45 mm_k1 (by decide) (by decide)
              have tv46 := mm_addEc ev46 rv45 mm_k1 (by decide) (k := 1) (by decide)
              refine lv_iload_n hx hb dX12_rate_80 rfl (lv_at hl 3 rfl) ?_
              refine va_iast hx hb hK.1 hP hD hS 2 1 rfl rfl (mm_in rv46 (by decide)) dX12_rate_81 ?_
              clear hP hD hS
              clear H locs
              obtain ⟨g47, eg47⟩ : ∃ z : Nat → Int32, z = upd f_0 v46.toNatClampNeg i_1 := ⟨_, rfl⟩
              rw [← eg47]
              intro H locs (hP : va_P G vwCl [(a_0, .inr (12, [.int 0, .ref a_1, .ref a_2, .ref a_3, .ref a_4, .ref a_5, .int i_3, .int i_4, .int i_5, .int i_6, .int i_7, .long j_0, .int i_8, .int i_9, .int i_10, .int i_11, .ref a_6, .ref a_7, .ref a_8, .ref a_9, .ref a_10, .ref a_11, .ref a_12, .ref a_13, .ref a_14, .ref a_15, .ref a_16, .ref a_17, .ref a_18, .int i_12, .int i_13, .int i_14, .int i_15, .int i_16, .int i_17, .ref a_19, .int i_18, .ref a_20])), (a_7, .inl (cy 1, 30, .inl (mm_g [i_19, i_20, i_21, i_22, i_23, i_24, i_25, i_26, i_27, i_28, i_29, i_30, i_31, i_32, i_33, i_34, i_35, i_36, i_37, i_38, i_39, i_40, i_41, i_42, i_43, i_44, i_45, i_46, i_47, i_48]))), (a_8, .inl (cy 1, 90, .inl g47))] H) (hD : va_D A [(a_0, .inr (12, [.int 0, .ref a_1, .ref a_2, .ref a_3, .ref a_4, .ref a_5, .int i_3, .int i_4, .int i_5, .int i_6, .int i_7, .long j_0, .int i_8, .int i_9, .int i_10, .int i_11, .ref a_6, .ref a_7, .ref a_8, .ref a_9, .ref a_10, .ref a_11, .ref a_12, .ref a_13, .ref a_14, .ref a_15, .ref a_16, .ref a_17, .ref a_18, .int i_12, .int i_13, .int i_14, .int i_15, .int i_16, .int i_17, .ref a_19, .int i_18, .ref a_20])), (a_7, .inl (cy 1, 30, .inl (mm_g [i_19, i_20, i_21, i_22, i_23, i_24, i_25, i_26, i_27, i_28, i_29, i_30, i_31, i_32, i_33, i_34, i_35, i_36, i_37, i_38, i_39, i_40, i_41, i_42, i_43, i_44, i_45, i_46, i_47, i_48]))), (a_8, .inl (cy 1, 90, .inl g47))]) hS
              have rg47 : mm_ar g47 0 99 := by rw [eg47]; exact mm_ar_upd (mm_ar_wk h30 (by decide)) (mm_wk q38 (by decide)) _
              refine lv_iload_n hx hb dX12_rate_82 rfl (lv_at hl 0 rfl) ?_
              subst hAe
              rw [hQ]
              exact W.iret (v := v44) hx hb hr (fun t ht hW => ⟨⟨v44, g47, rfl, ⟨rg47, (mm_wk rv44 (by decide))⟩, by rw [ht]; exact hP, hK.warm hW, hD⟩, hS.F ht⟩) hS.2.2 dX12_rate_83
            · have q48 := mm_ltR (lo := 1) (mm_nle c40) mm_k0 h5 (by decide)
              refine lv_bipush (v := (-5)) hx hb dX12_rate_57 (by decide) ?_
              subst hAe
              rw [hQ]
              exact W.iret (v := (-5)) hx hb hr (fun t ht hW => ⟨⟨(-5), f_0, rfl, ⟨h30, (mm_wk mm_km5 (by decide))⟩, by rw [ht]; exact hP, hK.warm hW, hD⟩, hS.F ht⟩) hS.2.2 dX12_rate_59
          · exact mm_eqN c39.symm mm_k0 mm_k1 (by decide)

set_option maxHeartbeats 4000000 in
set_option maxRecDepth 100000 in
theorem M111_X12_count (l : Launch) (G : va_G) (cy : Nat → ClassId) (sz : Nat) (a_0 : Nat) (i_0 : Int32) (i_1 : Int32) (a_1 : Nat) (a_2 : Nat) (a_3 : Nat) (a_4 : Nat) (a_5 : Nat) (i_2 : Int32) (i_3 : Int32) (i_4 : Int32) (i_5 : Int32) (i_6 : Int32) (j_0 : Int64) (i_7 : Int32) (i_8 : Int32) (i_9 : Int32) (i_10 : Int32) (a_6 : Nat) (a_7 : Nat) (a_8 : Nat) (a_9 : Nat) (a_10 : Nat) (a_11 : Nat) (a_12 : Nat) (a_13 : Nat) (a_14 : Nat) (a_15 : Nat) (a_16 : Nat) (a_17 : Nat) (a_18 : Nat) (i_11 : Int32) (i_12 : Int32) (i_13 : Int32) (i_14 : Int32) (i_15 : Int32) (i_16 : Int32) (a_19 : Nat) (i_17 : Int32) (a_20 : Nat) (f_0 : Nat → Int32) (i_18 : Int32) (i_19 : Int32) (i_20 : Int32) (i_21 : Int32) (i_22 : Int32) (i_23 : Int32) (i_24 : Int32) (i_25 : Int32) (i_26 : Int32) (i_27 : Int32) (i_28 : Int32) (i_29 : Int32) (i_30 : Int32) (i_31 : Int32) (i_32 : Int32) (i_33 : Int32) (i_34 : Int32) (i_35 : Int32) (i_36 : Int32) (i_37 : Int32) (i_38 : Int32) (i_39 : Int32) (i_40 : Int32) (i_41 : Int32) (i_42 : Int32) (i_43 : Int32) (i_44 : Int32) (i_45 : Int32) (i_46 : Int32) (i_47 : Int32) (i_48 : Int32) (i_49 : Int32) (i_50 : Int32) (i_51 : Int32) (i_52 : Int32) (f_1 : Nat → Int32) (h0 : mm_rg i_2 0 600) (h1 : mm_ar f_0 (-1) 3) (h2 : mm_rg i_18 0 601) (h3 : mm_rg i_19 0 601) (h4 : mm_rg i_20 0 601) (h5 : mm_rg i_21 0 601) (h6 : mm_rg i_22 0 601) (h7 : mm_rg i_23 0 10) (h8 : mm_rg i_24 0 99) (h9 : mm_rg i_25 0 9) (h10 : mm_rg i_26 0 3) (h11 : mm_rg i_27 0 6) (h12 : mm_rg i_28 0 30) (h13 : mm_rg i_29 0 10) (h14 : mm_rg i_30 0 99) (h15 : mm_rg i_31 0 9) (h16 : mm_rg i_32 0 3) (h17 : mm_rg i_33 0 6) (h18 : mm_rg i_34 0 30) (h19 : mm_rg i_35 0 10) (h20 : mm_rg i_36 0 99) (h21 : mm_rg i_37 0 9) (h22 : mm_rg i_38 0 3) (h23 : mm_rg i_39 0 6) (h24 : mm_rg i_40 0 30) (h25 : mm_rg i_41 0 10) (h26 : mm_rg i_42 0 99) (h27 : mm_rg i_43 0 9) (h28 : mm_rg i_44 0 3) (h29 : mm_rg i_45 0 6) (h30 : mm_rg i_46 0 30) (h31 : mm_rg i_47 0 10) (h32 : mm_rg i_48 0 99) (h33 : mm_rg i_49 0 9) (h34 : mm_rg i_50 0 3) (h35 : mm_rg i_51 0 6) (h36 : mm_rg i_52 0 30) (h37 : mm_ar f_1 0 7) (h38 : mm_tl i_18 i_26 i_27) (h39 : mm_tl i_19 i_32 i_33) (h40 : mm_tl i_20 i_38 i_39) (h41 : mm_tl i_21 i_44 i_45)  : mm_CI l yX12_count (mm_ws yX12_count cX12_count 4 (some .int)) ({ frames := 1, cells := 0, slots := 0, locals := 20 } : Room) G cy sz [(a_0, .inr (12, [.int i_1, .ref a_1, .ref a_2, .ref a_3, .ref a_4, .ref a_5, .int i_2, .int i_3, .int i_4, .int i_5, .int i_6, .long j_0, .int i_7, .int i_8, .int i_9, .int i_10, .ref a_6, .ref a_7, .ref a_8, .ref a_9, .ref a_10, .ref a_11, .ref a_12, .ref a_13, .ref a_14, .ref a_15, .ref a_16, .ref a_17, .ref a_18, .int i_11, .int i_12, .int i_13, .int i_14, .int i_15, .int i_16, .ref a_19, .int i_17, .ref a_20])), (a_1, .inl (cy 1, 4, .inl f_0)), (a_6, .inl (cy 1, 5, .inl (mm_g [i_18, i_19, i_20, i_21, i_22]))), (a_7, .inl (cy 1, 30, .inl (mm_g [i_23, i_24, i_25, i_26, i_27, i_28, i_29, i_30, i_31, i_32, i_33, i_34, i_35, i_36, i_37, i_38, i_39, i_40, i_41, i_42, i_43, i_44, i_45, i_46, i_47, i_48, i_49, i_50, i_51, i_52]))), (a_9, .inl (cy 1, 15, .inl f_1))] [.ref a_0, .int i_0] (fun u : Unit => [(a_0, .inr (12, [.int 0, .ref a_1, .ref a_2, .ref a_3, .ref a_4, .ref a_5, .int i_2, .int i_3, .int i_4, .int i_5, .int i_6, .long j_0, .int i_7, .int i_8, .int i_9, .int i_10, .ref a_6, .ref a_7, .ref a_8, .ref a_9, .ref a_10, .ref a_11, .ref a_12, .ref a_13, .ref a_14, .ref a_15, .ref a_16, .ref a_17, .ref a_18, .int i_11, .int i_12, .int i_13, .int i_14, .int i_15, .int i_16, .ref a_19, .int i_17, .ref a_20])), (a_1, .inl (cy 1, 4, .inl f_0)), (a_6, .inl (cy 1, 5, .inl (mm_g [i_18, i_19, i_20, i_21, i_22]))), (a_7, .inl (cy 1, 30, .inl (mm_g [i_23, i_24, i_25, i_26, i_27, i_28, i_29, i_30, i_31, i_32, i_33, i_34, i_35, i_36, i_37, i_38, i_39, i_40, i_41, i_42, i_43, i_44, i_45, i_46, i_47, i_48, i_49, i_50, i_51, i_52]))), (a_9, .inl (cy 1, 15, .inl f_1))]) (fun (r : Int32) (u : Unit) => mm_rg r (-1) 601) 0 0 := by
  refine mm_begin (lv := [(0, .ref a_0), (1, .int i_0)]) (by decide) (Nat.le_of_ble_eq_true rfl) rfl ?_
  intro p e s m below meth c A ls R args Q H locs hRe hQ hAe hx hb hr hlocks hml hown hnm hts hsz hA hS hP hK hD hZ hl
  have hRf : R.frames = 1 := by rw [hRe]
  have hRl : R.locals = 20 := by rw [hRe]
  have hRc : R.cells = 0 := by rw [hRe]
  have hRs : R.slots = 0 := by rw [hRe]
  refine lv_aload_n hx hb dX12_count_0 rfl (lv_at hl 0 rfl) ?_
  refine lv_iconst (v := 0) hx hb dX12_count_1 (by decide) ?_
  refine va_put (D := G) (ci := 12) (v := .int 0) (ty := tyX12 0) (C := RX12) (T := TX12) (N := 38) hx hb hts (mm_i inlX12) tyX12 tyX12_ok nmX12 hown hK.1 hP hD hS 0 rfl rfl 0 (by decide) (mm_h hts mm_w177) (fun _ h9 => h9) rfl (tyX12_ok 0 (by decide)) rfl rfl (Nat.le_of_ble_eq_true rfl) dX12_count_2 ?_
  clear hP hD hS
  clear H locs
  intro H locs (hP : va_P G vwCl [(a_0, .inr (12, [.int 0, .ref a_1, .ref a_2, .ref a_3, .ref a_4, .ref a_5, .int i_2, .int i_3, .int i_4, .int i_5, .int i_6, .long j_0, .int i_7, .int i_8, .int i_9, .int i_10, .ref a_6, .ref a_7, .ref a_8, .ref a_9, .ref a_10, .ref a_11, .ref a_12, .ref a_13, .ref a_14, .ref a_15, .ref a_16, .ref a_17, .ref a_18, .int i_11, .int i_12, .int i_13, .int i_14, .int i_15, .int i_16, .ref a_19, .int i_17, .ref a_20])), (a_1, .inl (cy 1, 4, .inl f_0)), (a_6, .inl (cy 1, 5, .inl (mm_g [i_18, i_19, i_20, i_21, i_22]))), (a_7, .inl (cy 1, 30, .inl (mm_g [i_23, i_24, i_25, i_26, i_27, i_28, i_29, i_30, i_31, i_32, i_33, i_34, i_35, i_36, i_37, i_38, i_39, i_40, i_41, i_42, i_43, i_44, i_45, i_46, i_47, i_48, i_49, i_50, i_51, i_52]))), (a_9, .inl (cy 1, 15, .inl f_1))] H) (hD : va_D A [(a_0, .inr (12, [.int 0, .ref a_1, .ref a_2, .ref a_3, .ref a_4, .ref a_5, .int i_2, .int i_3, .int i_4, .int i_5, .int i_6, .long j_0, .int i_7, .int i_8, .int i_9, .int i_10, .ref a_6, .ref a_7, .ref a_8, .ref a_9, .ref a_10, .ref a_11, .ref a_12, .ref a_13, .ref a_14, .ref a_15, .ref a_16, .ref a_17, .ref a_18, .int i_11, .int i_12, .int i_13, .int i_14, .int i_15, .int i_16, .ref a_19, .int i_17, .ref a_20])), (a_1, .inl (cy 1, 4, .inl f_0)), (a_6, .inl (cy 1, 5, .inl (mm_g [i_18, i_19, i_20, i_21, i_22]))), (a_7, .inl (cy 1, 30, .inl (mm_g [i_23, i_24, i_25, i_26, i_27, i_28, i_29, i_30, i_31, i_32, i_33, i_34, i_35, i_36, i_37, i_38, i_39, i_40, i_41, i_42, i_43, i_44, i_45, i_46, i_47, i_48, i_49, i_50, i_51, i_52]))), (a_9, .inl (cy 1, 15, .inl f_1))]) hS
  refine lv_iconst (v := 0) hx hb dX12_count_5 (by decide) ?_
  refine lv_istore_n (lv' := [(2, .int 0), (0, .ref a_0), (1, .int i_0)]) hx hb dX12_count_6 rfl hl (by decide) rfl ?_
  clear hl
  clear ls
  intro ls hl
  refine lv_iload_n hx hb dX12_count_7 rfl (lv_at hl 2 rfl) ?_
  rcases mm_out i_0 0 9 with c1 | c1 | c1
  · have q2 : mm_rg i_0 (-2147483648) (-1) := ⟨((mm_top i_0)).1, by omega⟩
    refine lv_tableOut (tgt := 176) hx hb dX12_count_8 (Or.inl c1) (by decide) ?_
    refine lv_iconst (v := (-1)) hx hb dX12_count_176 (by decide) ?_
    subst hAe
    rw [hQ]
    exact W.iret (v := (-1)) hx hb hr (fun t ht hW => ⟨⟨(-1), (), rfl, (mm_wk mm_km1 (by decide)), by rw [ht]; exact hP, hK.warm hW, hD⟩, hS.F ht⟩) hS.2.2 dX12_count_177
  · have q3 : mm_rg i_0 10 2147483647 := ⟨by omega, ((mm_top i_0)).2⟩
    refine lv_tableOut (tgt := 176) hx hb dX12_count_8 (Or.inr c1) (by decide) ?_
    refine lv_iconst (v := (-1)) hx hb dX12_count_176 (by decide) ?_
    subst hAe
    rw [hQ]
    exact W.iret (v := (-1)) hx hb hr (fun t ht hW => ⟨⟨(-1), (), rfl, (mm_wk mm_km1 (by decide)), by rw [ht]; exact hP, hK.warm hW, hD⟩, hS.F ht⟩) hS.2.2 dX12_count_177
  · have c4 := mm_cases10 c1
    rcases c4 with rfl | rfl | rfl | rfl | rfl | rfl | rfl | rfl | rfl | rfl
    · refine lv_tableIn (tgt := 64) hx hb dX12_count_8 (by decide) (by decide) rfl (by decide) ?_
      refine lv_aload_n hx hb dX12_count_64 rfl (lv_at hl 1 rfl) ?_
      refine va_get (D := G) (ci := 12) (v := .ref a_7) (C := RX12) (T := TX12) (N := 38) hx hb hts (mm_i inlX12) hown hK.1 hP 0 rfl rfl 17 (by decide) (mm_h hts mm_w149) (fun _ h9 => h9) rfl dX12_count_65 ?_
      refine lv_iconst (v := 0) hx hb dX12_count_68 (by decide) ?_
      refine va_iald hx hb hK.1 hP 3 1 rfl rfl (mm_in mm_k0 (by decide)) dX12_count_69 ?_
      refine W.eq (g2 := F0 m 70 ls [.int i_23]) rfl ?_
      subst hAe
      rw [hQ]
      exact W.iret (v := i_23) hx hb hr (fun t ht hW => ⟨⟨i_23, (), rfl, (mm_wk h7 (by decide)), by rw [ht]; exact hP, hK.warm hW, hD⟩, hS.F ht⟩) hS.2.2 dX12_count_70
    · refine lv_tableIn (tgt := 71) hx hb dX12_count_8 (by decide) (by decide) rfl (by decide) ?_
      refine lv_aload_n hx hb dX12_count_71 rfl (lv_at hl 1 rfl) ?_
      refine va_get (D := G) (ci := 12) (v := .ref a_7) (C := RX12) (T := TX12) (N := 38) hx hb hts (mm_i inlX12) hown hK.1 hP 0 rfl rfl 17 (by decide) (mm_h hts mm_w149) (fun _ h9 => h9) rfl dX12_count_72 ?_
      refine lv_iconst (v := 1) hx hb dX12_count_75 (by decide) ?_
      refine va_iald hx hb hK.1 hP 3 1 rfl rfl (mm_in mm_k1 (by decide)) dX12_count_76 ?_
      refine W.eq (g2 := F0 m 77 ls [.int i_24]) rfl ?_
      subst hAe
      rw [hQ]
      exact W.iret (v := i_24) hx hb hr (fun t ht hW => ⟨⟨i_24, (), rfl, (mm_wk h8 (by decide)), by rw [ht]; exact hP, hK.warm hW, hD⟩, hS.F ht⟩) hS.2.2 dX12_count_77
    · refine lv_tableIn (tgt := 78) hx hb dX12_count_8 (by decide) (by decide) rfl (by decide) ?_
      refine lv_aload_n hx hb dX12_count_78 rfl (lv_at hl 1 rfl) ?_
      refine mm_finir (va_runV (As := []) (rest := []) ⟨hx, hb, hml, hown, hts⟩ (M92_X12_senses l G cy H.size a_0 0 a_1 a_2 a_3 a_4 a_5 i_2 i_3 i_4 i_5 i_6 j_0 i_7 i_8 i_9 i_10 a_6 a_7 a_8 a_9 a_10 a_11 a_12 a_13 a_14 a_15 a_16 a_17 a_18 i_11 i_12 i_13 i_14 i_15 i_16 a_19 i_17 a_20 i_23 i_24 i_25 i_26 i_27 i_28 i_29 i_30 i_31 i_32 i_33 i_34 i_35 i_36 i_37 i_38 i_39 i_40 i_41 i_42 i_43 i_44 i_45 i_46 i_47 i_48 i_49 i_50 i_51 i_52 h7 h8 h9 h10 h11 h12 h13 h14 h15 h16 h17 h18 h19 h20 h21 h22 h23 h24 h25 h26 h27 h28 h29 h30 h31 h32 h33 h34 h35 h36) (cwV 0 hts (mm_gV mm_w588 mm_w589 mm_w590 mm_w5 mm_w591) rfl rfl rfl hd_X12_senses ⟨by rw [hRf]; exact Nat.le_of_ble_eq_true rfl, by rw [hRl]; exact Nat.le_of_ble_eq_true rfl⟩) (mm_preV hK hZ hS hA hP hD [0, 3] rfl rfl 0 rfl rfl rfl) rfl rfl hl.1 rfl (lv_room (Nat.le_of_ble_eq_true rfl)) dX12_count_79 ⟨by rw [hRc]; exact Nat.le_of_ble_eq_true rfl, by rw [hRs]; exact Nat.le_of_ble_eq_true rfl⟩) hP hD hS hA [0, 3] rfl (fun _ => rfl) ?_
      clear hP hD hS
      clear H locs
      intro v5 _u H locs hw hP hD hS
      subst hw
      subst hAe
      rw [hQ]
      exact W.iret (v := i_25) hx hb hr (fun t ht hW => ⟨⟨i_25, (), rfl, (mm_wk h9 (by decide)), by rw [ht]; exact hP, hK.warm hW, hD⟩, hS.F ht⟩) hS.2.2 dX12_count_82
    · refine lv_tableIn (tgt := 83) hx hb dX12_count_8 (by decide) (by decide) rfl (by decide) ?_
      refine lv_aload_n hx hb dX12_count_83 rfl (lv_at hl 1 rfl) ?_
      refine va_get (D := G) (ci := 12) (v := .ref a_7) (C := RX12) (T := TX12) (N := 38) hx hb hts (mm_i inlX12) hown hK.1 hP 0 rfl rfl 17 (by decide) (mm_h hts mm_w149) (fun _ h9 => h9) rfl dX12_count_84 ?_
      refine lv_iconst (v := 3) hx hb dX12_count_87 (by decide) ?_
      refine va_iald hx hb hK.1 hP 3 1 rfl rfl (mm_in mm_k3 (by decide)) dX12_count_88 ?_
      refine W.eq (g2 := F0 m 89 ls [.int i_26]) rfl ?_
      subst hAe
      rw [hQ]
      exact W.iret (v := i_26) hx hb hr (fun t ht hW => ⟨⟨i_26, (), rfl, (mm_wk h10 (by decide)), by rw [ht]; exact hP, hK.warm hW, hD⟩, hS.F ht⟩) hS.2.2 dX12_count_89
    · refine lv_tableIn (tgt := 90) hx hb dX12_count_8 (by decide) (by decide) rfl (by decide) ?_
      refine lv_iconst (v := 0) hx hb dX12_count_90 (by decide) ?_
      refine lv_istore_n (lv' := [(3, .int 0), (2, .int 0), (0, .ref a_0), (1, .int 4)]) hx hb dX12_count_91 rfl hl (by decide) rfl ?_
      clear hl
      clear ls
      intro ls hl
      refine lv_iload_n hx hb dX12_count_92 rfl (lv_at hl 0 rfl) ?_
      refine lv_aload_n hx hb dX12_count_93 rfl (lv_at hl 2 rfl) ?_
      refine va_get (D := G) (ci := 12) (v := .ref a_7) (C := RX12) (T := TX12) (N := 38) hx hb hts (mm_i inlX12) hown hK.1 hP 0 rfl rfl 17 (by decide) (mm_h hts mm_w149) (fun _ h9 => h9) rfl dX12_count_94 ?_
      refine lv_iconst (v := 3) hx hb dX12_count_97 (by decide) ?_
      refine va_iald hx hb hK.1 hP 3 1 rfl rfl (mm_in mm_k3 (by decide)) dX12_count_98 ?_
      refine W.eq (g2 := F0 m 99 ls [.int i_26, .int 0]) rfl ?_
      refine lv_icmp_ge (tgt := 117) hx hb dX12_count_99 (by decide) (fun c6 => ?_) (fun c6 => ?_)
      · have q7 := mm_leL (mm_le c6) h10 mm_k0
        refine lv_iload_n hx hb dX12_count_117 rfl (lv_at hl 1 rfl) ?_
        subst hAe
        rw [hQ]
        exact W.iret (v := 0) hx hb hr (fun t ht hW => ⟨⟨0, (), rfl, (mm_wk mm_k0 (by decide)), by rw [ht]; exact hP, hK.warm hW, hD⟩, hS.F ht⟩) hS.2.2 dX12_count_118
      · have q8 := mm_ltR (lo := 1) (mm_nle c6) mm_k0 h10 (by decide)
        refine lv_iload_n hx hb dX12_count_102 rfl (lv_at hl 1 rfl) ?_
        refine lv_aload_n hx hb dX12_count_103 rfl (lv_at hl 2 rfl) ?_
        refine va_get (D := G) (ci := 12) (v := .ref a_9) (C := RX12) (T := TX12) (N := 38) hx hb hts (mm_i inlX12) hown hK.1 hP 0 rfl rfl 19 (by decide) (mm_h hts mm_w151) (fun _ h9 => h9) rfl dX12_count_104 ?_
        refine lv_iload_n hx hb dX12_count_107 rfl (lv_at hl 0 rfl) ?_
        refine va_iald hx hb hK.1 hP 4 1 rfl rfl (mm_in mm_k0 (by decide)) dX12_count_108 ?_
        refine lv_topi (fun v9 ev9 => ?_)
        have rv9 : mm_rg v9 0 7 := mm_eqv ev9 (h37 _)
        refine lv_iadd hx hb dX12_count_109 ?_
        refine lv_topi (fun v10 ev10 => ?_)
        have rv10 : mm_rg v10 0 7 := mm_add ev10 mm_k0 rv9 (by decide) (by decide)
        have tv10 := mm_addEd ev10 mm_k0 rv9 (by decide) (k := 0) (by decide)
        refine lv_istore_n (lv' := [(2, .int v10), (3, .int 0), (0, .ref a_0), (1, .int 4)]) hx hb dX12_count_110 rfl hl (by decide) rfl ?_
        clear hl
        clear ls
        intro ls hl
        refine lv_iinc (v := 1) (lv' := [(3, .int 1), (2, .int v10), (0, .ref a_0), (1, .int 4)]) hx hb dX12_count_111 hl (k := 1) rfl (by decide) (by decide) rfl ?_
        clear hl
        clear ls
        intro ls hl
        refine lv_goto (tgt := 92) hx hb dX12_count_114 (by decide) ?_
        refine lv_iload_n hx hb dX12_count_92 rfl (lv_at hl 0 rfl) ?_
        refine lv_aload_n hx hb dX12_count_93 rfl (lv_at hl 2 rfl) ?_
        refine va_get (D := G) (ci := 12) (v := .ref a_7) (C := RX12) (T := TX12) (N := 38) hx hb hts (mm_i inlX12) hown hK.1 hP 0 rfl rfl 17 (by decide) (mm_h hts mm_w149) (fun _ h9 => h9) rfl dX12_count_94 ?_
        refine lv_iconst (v := 3) hx hb dX12_count_97 (by decide) ?_
        refine va_iald hx hb hK.1 hP 3 1 rfl rfl (mm_in mm_k3 (by decide)) dX12_count_98 ?_
        refine W.eq (g2 := F0 m 99 ls [.int i_26, .int 1]) rfl ?_
        refine lv_icmp_ge (tgt := 117) hx hb dX12_count_99 (by decide) (fun c11 => ?_) (fun c11 => ?_)
        · have q12 := mm_leL (mm_le c11) q8 mm_k1
          refine lv_iload_n hx hb dX12_count_117 rfl (lv_at hl 1 rfl) ?_
          subst hAe
          rw [hQ]
          exact W.iret (v := v10) hx hb hr (fun t ht hW => ⟨⟨v10, (), rfl, (mm_wk rv10 (by decide)), by rw [ht]; exact hP, hK.warm hW, hD⟩, hS.F ht⟩) hS.2.2 dX12_count_118
        · have q13 := mm_ltR (lo := 2) (mm_nle c11) mm_k1 q8 (by decide)
          refine lv_iload_n hx hb dX12_count_102 rfl (lv_at hl 1 rfl) ?_
          refine lv_aload_n hx hb dX12_count_103 rfl (lv_at hl 2 rfl) ?_
          refine va_get (D := G) (ci := 12) (v := .ref a_9) (C := RX12) (T := TX12) (N := 38) hx hb hts (mm_i inlX12) hown hK.1 hP 0 rfl rfl 19 (by decide) (mm_h hts mm_w151) (fun _ h9 => h9) rfl dX12_count_104 ?_
          refine lv_iload_n hx hb dX12_count_107 rfl (lv_at hl 0 rfl) ?_
          refine va_iald hx hb hK.1 hP 4 1 rfl rfl (mm_in mm_k1 (by decide)) dX12_count_108 ?_
          refine lv_topi (fun v14 ev14 => ?_)
          have rv14 : mm_rg v14 0 7 := mm_eqv ev14 (h37 _)
          refine lv_iadd hx hb dX12_count_109 ?_
          refine lv_topi (fun v15 ev15 => ?_)
          have rv15 : mm_rg v15 0 14 := mm_add ev15 rv10 rv14 (by decide) (by decide)
          have tv15 := mm_addE ev15 rv10 rv14 (by decide)
          refine lv_istore_n (lv' := [(2, .int v15), (3, .int 1), (0, .ref a_0), (1, .int 4)]) hx hb dX12_count_110 rfl hl (by decide) rfl ?_
          clear hl
          clear ls
          intro ls hl
          refine lv_iinc (v := 2) (lv' := [(3, .int 2), (2, .int v15), (0, .ref a_0), (1, .int 4)]) hx hb dX12_count_111 hl (k := 1) rfl (by decide) (by decide) rfl ?_
          clear hl
          clear ls
          intro ls hl
          refine lv_goto (tgt := 92) hx hb dX12_count_114 (by decide) ?_
          refine lv_iload_n hx hb dX12_count_92 rfl (lv_at hl 0 rfl) ?_
          refine lv_aload_n hx hb dX12_count_93 rfl (lv_at hl 2 rfl) ?_
          refine va_get (D := G) (ci := 12) (v := .ref a_7) (C := RX12) (T := TX12) (N := 38) hx hb hts (mm_i inlX12) hown hK.1 hP 0 rfl rfl 17 (by decide) (mm_h hts mm_w149) (fun _ h9 => h9) rfl dX12_count_94 ?_
          refine lv_iconst (v := 3) hx hb dX12_count_97 (by decide) ?_
          refine va_iald hx hb hK.1 hP 3 1 rfl rfl (mm_in mm_k3 (by decide)) dX12_count_98 ?_
          refine W.eq (g2 := F0 m 99 ls [.int i_26, .int 2]) rfl ?_
          refine lv_icmp_ge (tgt := 117) hx hb dX12_count_99 (by decide) (fun c16 => ?_) (fun c16 => ?_)
          · have q17 := mm_leL (mm_le c16) q13 mm_k2
            refine lv_iload_n hx hb dX12_count_117 rfl (lv_at hl 1 rfl) ?_
            subst hAe
            rw [hQ]
            exact W.iret (v := v15) hx hb hr (fun t ht hW => ⟨⟨v15, (), rfl, (mm_wk rv15 (by decide)), by rw [ht]; exact hP, hK.warm hW, hD⟩, hS.F ht⟩) hS.2.2 dX12_count_118
          · have q18 := mm_ltR (lo := 3) (mm_nle c16) mm_k2 q13 (by decide)
            refine lv_iload_n hx hb dX12_count_102 rfl (lv_at hl 1 rfl) ?_
            refine lv_aload_n hx hb dX12_count_103 rfl (lv_at hl 2 rfl) ?_
            refine va_get (D := G) (ci := 12) (v := .ref a_9) (C := RX12) (T := TX12) (N := 38) hx hb hts (mm_i inlX12) hown hK.1 hP 0 rfl rfl 19 (by decide) (mm_h hts mm_w151) (fun _ h9 => h9) rfl dX12_count_104 ?_
            refine lv_iload_n hx hb dX12_count_107 rfl (lv_at hl 0 rfl) ?_
            refine va_iald hx hb hK.1 hP 4 1 rfl rfl (mm_in mm_k2 (by decide)) dX12_count_108 ?_
            refine lv_topi (fun v19 ev19 => ?_)
            have rv19 : mm_rg v19 0 7 := mm_eqv ev19 (h37 _)
            refine lv_iadd hx hb dX12_count_109 ?_
            refine lv_topi (fun v20 ev20 => ?_)
            have rv20 : mm_rg v20 0 21 := mm_add ev20 rv15 rv19 (by decide) (by decide)
            have tv20 := mm_addE ev20 rv15 rv19 (by decide)
            refine lv_istore_n (lv' := [(2, .int v20), (3, .int 2), (0, .ref a_0), (1, .int 4)]) hx hb dX12_count_110 rfl hl (by decide) rfl ?_
            clear hl
            clear ls
            intro ls hl
            refine lv_iinc (v := 3) (lv' := [(3, .int 3), (2, .int v20), (0, .ref a_0), (1, .int 4)]) hx hb dX12_count_111 hl (k := 1) rfl (by decide) (by decide) rfl ?_
            clear hl
            clear ls
            intro ls hl
            refine lv_goto (tgt := 92) hx hb dX12_count_114 (by decide) ?_
            refine lv_iload_n hx hb dX12_count_92 rfl (lv_at hl 0 rfl) ?_
            refine lv_aload_n hx hb dX12_count_93 rfl (lv_at hl 2 rfl) ?_
            refine va_get (D := G) (ci := 12) (v := .ref a_7) (C := RX12) (T := TX12) (N := 38) hx hb hts (mm_i inlX12) hown hK.1 hP 0 rfl rfl 17 (by decide) (mm_h hts mm_w149) (fun _ h9 => h9) rfl dX12_count_94 ?_
            refine lv_iconst (v := 3) hx hb dX12_count_97 (by decide) ?_
            refine va_iald hx hb hK.1 hP 3 1 rfl rfl (mm_in mm_k3 (by decide)) dX12_count_98 ?_
            refine W.eq (g2 := F0 m 99 ls [.int i_26, .int 3]) rfl ?_
            refine lv_icmp_ge (tgt := 117) hx hb dX12_count_99 (by decide) (fun c21 => ?_) (fun c21 => ?_)
            · refine lv_iload_n hx hb dX12_count_117 rfl (lv_at hl 1 rfl) ?_
              subst hAe
              rw [hQ]
              exact W.iret (v := v20) hx hb hr (fun t ht hW => ⟨⟨v20, (), rfl, (mm_wk rv20 (by decide)), by rw [ht]; exact hP, hK.warm hW, hD⟩, hS.F ht⟩) hS.2.2 dX12_count_118
            · have q22 := mm_ltL (h := 2) (mm_nle c21) mm_k3 q18 (by decide)
              exact mm_no q22 (by decide)
    · refine lv_tableIn (tgt := 119) hx hb dX12_count_8 (by decide) (by decide) rfl (by decide) ?_
      refine lv_aload_n hx hb dX12_count_119 rfl (lv_at hl 1 rfl) ?_
      refine mm_finir (va_runV (As := []) (rest := []) ⟨hx, hb, hml, hown, hts⟩ (M95_X12_texts l G cy H.size a_0 0 a_1 a_2 a_3 a_4 a_5 i_2 i_3 i_4 i_5 i_6 j_0 i_7 i_8 i_9 i_10 a_6 a_7 a_8 a_9 a_10 a_11 a_12 a_13 a_14 a_15 a_16 a_17 a_18 i_11 i_12 i_13 i_14 i_15 i_16 a_19 i_17 a_20 i_23 i_24 i_25 i_26 i_27 i_28 i_29 i_30 i_31 i_32 i_33 i_34 i_35 i_36 i_37 i_38 i_39 i_40 i_41 i_42 i_43 i_44 i_45 i_46 i_47 i_48 i_49 i_50 i_51 i_52 h7 h8 h9 h10 h11 h12 h13 h14 h15 h16 h17 h18 h19 h20 h21 h22 h23 h24 h25 h26 h27 h28 h29 h30 h31 h32 h33 h34 h35 h36) (cwV 0 hts (mm_gV mm_w617 mm_w618 mm_w619 mm_w5 mm_w620) rfl rfl rfl hd_X12_texts ⟨by rw [hRf]; exact Nat.le_of_ble_eq_true rfl, by rw [hRl]; exact Nat.le_of_ble_eq_true rfl⟩) (mm_preV hK hZ hS hA hP hD [0, 3] rfl rfl 0 rfl rfl rfl) rfl rfl hl.1 rfl (lv_room (Nat.le_of_ble_eq_true rfl)) dX12_count_120 ⟨by rw [hRc]; exact Nat.le_of_ble_eq_true rfl, by rw [hRs]; exact Nat.le_of_ble_eq_true rfl⟩) hP hD hS hA [0, 3] rfl (fun _ => rfl) ?_
      clear hP hD hS
      clear H locs
      intro v23 _u H locs hw hP hD hS
      subst hw
      subst hAe
      rw [hQ]
      exact W.iret (v := i_27) hx hb hr (fun t ht hW => ⟨⟨i_27, (), rfl, (mm_wk h11 (by decide)), by rw [ht]; exact hP, hK.warm hW, hD⟩, hS.F ht⟩) hS.2.2 dX12_count_123
    · refine lv_tableIn (tgt := 124) hx hb dX12_count_8 (by decide) (by decide) rfl (by decide) ?_
      refine lv_aload_n hx hb dX12_count_124 rfl (lv_at hl 1 rfl) ?_
      refine va_get (D := G) (ci := 12) (v := .ref a_7) (C := RX12) (T := TX12) (N := 38) hx hb hts (mm_i inlX12) hown hK.1 hP 0 rfl rfl 17 (by decide) (mm_h hts mm_w149) (fun _ h9 => h9) rfl dX12_count_125 ?_
      refine lv_iconst (v := 5) hx hb dX12_count_128 (by decide) ?_
      refine va_iald hx hb hK.1 hP 3 1 rfl rfl (mm_in mm_k5 (by decide)) dX12_count_129 ?_
      refine W.eq (g2 := F0 m 130 ls [.int i_28]) rfl ?_
      subst hAe
      rw [hQ]
      exact W.iret (v := i_28) hx hb hr (fun t ht hW => ⟨⟨i_28, (), rfl, (mm_wk h12 (by decide)), by rw [ht]; exact hP, hK.warm hW, hD⟩, hS.F ht⟩) hS.2.2 dX12_count_130
    · refine lv_tableIn (tgt := 131) hx hb dX12_count_8 (by decide) (by decide) rfl (by decide) ?_
      refine lv_aload_n hx hb dX12_count_131 rfl (lv_at hl 1 rfl) ?_
      refine va_get (D := G) (ci := 12) (v := .ref a_6) (C := RX12) (T := TX12) (N := 38) hx hb hts (mm_i inlX12) hown hK.1 hP 0 rfl rfl 16 (by decide) (mm_h hts mm_w148) (fun _ h9 => h9) rfl dX12_count_132 ?_
      refine lv_iconst (v := 0) hx hb dX12_count_135 (by decide) ?_
      refine va_iald hx hb hK.1 hP 2 1 rfl rfl (mm_in mm_k0 (by decide)) dX12_count_136 ?_
      refine W.eq (g2 := F0 m 137 ls [.int i_18]) rfl ?_
      subst hAe
      rw [hQ]
      exact W.iret (v := i_18) hx hb hr (fun t ht hW => ⟨⟨i_18, (), rfl, (mm_wk h2 (by decide)), by rw [ht]; exact hP, hK.warm hW, hD⟩, hS.F ht⟩) hS.2.2 dX12_count_137
    · refine lv_tableIn (tgt := 138) hx hb dX12_count_8 (by decide) (by decide) rfl (by decide) ?_
      refine lv_aload_n hx hb dX12_count_138 rfl (lv_at hl 1 rfl) ?_
      refine va_get (D := G) (ci := 12) (v := .int i_2) (C := RX12) (T := TX12) (N := 38) hx hb hts (mm_i inlX12) hown hK.1 hP 0 rfl rfl 6 (by decide) (mm_h hts mm_w178) (fun _ h9 => h9) rfl dX12_count_139 ?_
      subst hAe
      rw [hQ]
      exact W.iret (v := i_2) hx hb hr (fun t ht hW => ⟨⟨i_2, (), rfl, (mm_wk h0 (by decide)), by rw [ht]; exact hP, hK.warm hW, hD⟩, hS.F ht⟩) hS.2.2 dX12_count_142
    · refine lv_tableIn (tgt := 143) hx hb dX12_count_8 (by decide) (by decide) rfl (by decide) ?_
      refine lv_iconst (v := 0) hx hb dX12_count_143 (by decide) ?_
      refine lv_istore_n (lv' := [(3, .int 0), (2, .int 0), (0, .ref a_0), (1, .int 9)]) hx hb dX12_count_144 rfl hl (by decide) rfl ?_
      clear hl
      clear ls
      intro ls hl
      refine lv_iload_n hx hb dX12_count_145 rfl (lv_at hl 0 rfl) ?_
      refine lv_iconst (v := 4) hx hb dX12_count_146 (by decide) ?_
      refine lv_icmp_ge (tgt := 174) hx hb dX12_count_147 (by decide) (fun c24 => ?_) (fun c24 => ?_)
      · have q25 := mm_leL (mm_le c24) mm_k4 mm_k0
        exact mm_no q25 (by decide)
      · refine lv_iload_n hx hb dX12_count_150 rfl (lv_at hl 1 rfl) ?_
        refine lv_aload_n hx hb dX12_count_151 rfl (lv_at hl 2 rfl) ?_
        refine va_get (D := G) (ci := 12) (v := .ref a_1) (C := RX12) (T := TX12) (N := 38) hx hb hts (mm_i inlX12) hown hK.1 hP 0 rfl rfl 1 (by decide) (mm_h hts mm_w142) (fun _ h9 => h9) rfl dX12_count_152 ?_
        refine lv_iload_n hx hb dX12_count_155 rfl (lv_at hl 0 rfl) ?_
        refine va_iald hx hb hK.1 hP 1 1 rfl rfl (mm_in mm_k0 (by decide)) dX12_count_156 ?_
        refine lv_topi (fun v26 ev26 => ?_)
        have rv26 : mm_rg v26 (-1) 3 := mm_eqv ev26 (h1 _)
        refine lv_iconst (v := (-1)) hx hb dX12_count_157 (by decide) ?_
        refine lv_icmp_ne (tgt := 165) hx hb dX12_count_158 (by decide) (fun c27 => ?_) (fun c27 => ?_)
        · have q28 := mm_neL (lo := 0) (mm_ne c27) rv26 mm_km1 (by decide) (by decide)
          refine lv_iconst (v := 1) hx hb dX12_count_165 (by decide) ?_
          refine lv_iadd hx hb dX12_count_166 ?_
          refine lv_topi (fun v29 ev29 => ?_)
          obtain rfl : v29 = 1 := ev29.trans (by decide)
          refine lv_istore_n (lv' := [(2, .int 1), (3, .int 0), (0, .ref a_0), (1, .int 9)]) hx hb dX12_count_167 rfl hl (by decide) rfl ?_
          clear hl
          clear ls
          intro ls hl
          refine lv_iinc (v := 1) (lv' := [(3, .int 1), (2, .int 1), (0, .ref a_0), (1, .int 9)]) hx hb dX12_count_168 hl (k := 1) rfl (by decide) (by decide) rfl ?_
          clear hl
          clear ls
          intro ls hl
          refine lv_goto (tgt := 145) hx hb dX12_count_171 (by decide) ?_
          refine lv_iload_n hx hb dX12_count_145 rfl (lv_at hl 0 rfl) ?_
          refine lv_iconst (v := 4) hx hb dX12_count_146 (by decide) ?_
          refine lv_icmp_ge (tgt := 174) hx hb dX12_count_147 (by decide) (fun c30 => ?_) (fun c30 => ?_)
          · have q31 := mm_leL (mm_le c30) mm_k4 mm_k1
            exact mm_no q31 (by decide)
          · refine lv_iload_n hx hb dX12_count_150 rfl (lv_at hl 1 rfl) ?_
            refine lv_aload_n hx hb dX12_count_151 rfl (lv_at hl 2 rfl) ?_
            refine va_get (D := G) (ci := 12) (v := .ref a_1) (C := RX12) (T := TX12) (N := 38) hx hb hts (mm_i inlX12) hown hK.1 hP 0 rfl rfl 1 (by decide) (mm_h hts mm_w142) (fun _ h9 => h9) rfl dX12_count_152 ?_
            refine lv_iload_n hx hb dX12_count_155 rfl (lv_at hl 0 rfl) ?_
            refine va_iald hx hb hK.1 hP 1 1 rfl rfl (mm_in mm_k1 (by decide)) dX12_count_156 ?_
            refine lv_topi (fun v32 ev32 => ?_)
            have rv32 : mm_rg v32 (-1) 3 := mm_eqv ev32 (h1 _)
            refine lv_iconst (v := (-1)) hx hb dX12_count_157 (by decide) ?_
            refine lv_icmp_ne (tgt := 165) hx hb dX12_count_158 (by decide) (fun c33 => ?_) (fun c33 => ?_)
            · have q34 := mm_neL (lo := 0) (mm_ne c33) rv32 mm_km1 (by decide) (by decide)
              refine lv_iconst (v := 1) hx hb dX12_count_165 (by decide) ?_
              refine lv_iadd hx hb dX12_count_166 ?_
              refine lv_topi (fun v35 ev35 => ?_)
              obtain rfl : v35 = 2 := ev35.trans (by decide)
              refine lv_istore_n (lv' := [(2, .int 2), (3, .int 1), (0, .ref a_0), (1, .int 9)]) hx hb dX12_count_167 rfl hl (by decide) rfl ?_
              clear hl
              clear ls
              intro ls hl
              refine lv_iinc (v := 2) (lv' := [(3, .int 2), (2, .int 2), (0, .ref a_0), (1, .int 9)]) hx hb dX12_count_168 hl (k := 1) rfl (by decide) (by decide) rfl ?_
              clear hl
              clear ls
              intro ls hl
              refine lv_goto (tgt := 145) hx hb dX12_count_171 (by decide) ?_
              refine lv_iload_n hx hb dX12_count_145 rfl (lv_at hl 0 rfl) ?_
              refine lv_iconst (v := 4) hx hb dX12_count_146 (by decide) ?_
              refine lv_icmp_ge (tgt := 174) hx hb dX12_count_147 (by decide) (fun c36 => ?_) (fun c36 => ?_)
              · have q37 := mm_leL (mm_le c36) mm_k4 mm_k2
                exact mm_no q37 (by decide)
              · refine lv_iload_n hx hb dX12_count_150 rfl (lv_at hl 1 rfl) ?_
                refine lv_aload_n hx hb dX12_count_151 rfl (lv_at hl 2 rfl) ?_
                refine va_get (D := G) (ci := 12) (v := .ref a_1) (C := RX12) (T := TX12) (N := 38) hx hb hts (mm_i inlX12) hown hK.1 hP 0 rfl rfl 1 (by decide) (mm_h hts mm_w142) (fun _ h9 => h9) rfl dX12_count_152 ?_
                refine lv_iload_n hx hb dX12_count_155 rfl (lv_at hl 0 rfl) ?_
                refine va_iald hx hb hK.1 hP 1 1 rfl rfl (mm_in mm_k2 (by decide)) dX12_count_156 ?_
                refine lv_topi (fun v38 ev38 => ?_)
                have rv38 : mm_rg v38 (-1) 3 := mm_eqv ev38 (h1 _)
                refine lv_iconst (v := (-1)) hx hb dX12_count_157 (by decide) ?_
                refine lv_icmp_ne (tgt := 165) hx hb dX12_count_158 (by decide) (fun c39 => ?_) (fun c39 => ?_)
                · have q40 := mm_neL (lo := 0) (mm_ne c39) rv38 mm_km1 (by decide) (by decide)
                  refine lv_iconst (v := 1) hx hb dX12_count_165 (by decide) ?_
                  refine lv_iadd hx hb dX12_count_166 ?_
                  refine lv_topi (fun v41 ev41 => ?_)
                  obtain rfl : v41 = 3 := ev41.trans (by decide)
                  refine lv_istore_n (lv' := [(2, .int 3), (3, .int 2), (0, .ref a_0), (1, .int 9)]) hx hb dX12_count_167 rfl hl (by decide) rfl ?_
                  clear hl
                  clear ls
                  intro ls hl
                  refine lv_iinc (v := 3) (lv' := [(3, .int 3), (2, .int 3), (0, .ref a_0), (1, .int 9)]) hx hb dX12_count_168 hl (k := 1) rfl (by decide) (by decide) rfl ?_
                  clear hl
                  clear ls
                  intro ls hl
                  refine lv_goto (tgt := 145) hx hb dX12_count_171 (by decide) ?_
                  refine lv_iload_n hx hb dX12_count_145 rfl (lv_at hl 0 rfl) ?_
                  refine lv_iconst (v := 4) hx hb dX12_count_146 (by decide) ?_
                  refine lv_icmp_ge (tgt := 174) hx hb dX12_count_147 (by decide) (fun c42 => ?_) (fun c42 => ?_)
                  · have q43 := mm_leL (mm_le c42) mm_k4 mm_k3
                    exact mm_no q43 (by decide)
                  · refine lv_iload_n hx hb dX12_count_150 rfl (lv_at hl 1 rfl) ?_
                    refine lv_aload_n hx hb dX12_count_151 rfl (lv_at hl 2 rfl) ?_
                    refine va_get (D := G) (ci := 12) (v := .ref a_1) (C := RX12) (T := TX12) (N := 38) hx hb hts (mm_i inlX12) hown hK.1 hP 0 rfl rfl 1 (by decide) (mm_h hts mm_w142) (fun _ h9 => h9) rfl dX12_count_152 ?_
                    refine lv_iload_n hx hb dX12_count_155 rfl (lv_at hl 0 rfl) ?_
                    refine va_iald hx hb hK.1 hP 1 1 rfl rfl (mm_in mm_k3 (by decide)) dX12_count_156 ?_
                    refine lv_topi (fun v44 ev44 => ?_)
                    have rv44 : mm_rg v44 (-1) 3 := mm_eqv ev44 (h1 _)
                    refine lv_iconst (v := (-1)) hx hb dX12_count_157 (by decide) ?_
                    refine lv_icmp_ne (tgt := 165) hx hb dX12_count_158 (by decide) (fun c45 => ?_) (fun c45 => ?_)
                    · have q46 := mm_neL (lo := 0) (mm_ne c45) rv44 mm_km1 (by decide) (by decide)
                      refine lv_iconst (v := 1) hx hb dX12_count_165 (by decide) ?_
                      refine lv_iadd hx hb dX12_count_166 ?_
                      refine lv_topi (fun v47 ev47 => ?_)
                      obtain rfl : v47 = 4 := ev47.trans (by decide)
                      refine lv_istore_n (lv' := [(2, .int 4), (3, .int 3), (0, .ref a_0), (1, .int 9)]) hx hb dX12_count_167 rfl hl (by decide) rfl ?_
                      clear hl
                      clear ls
                      intro ls hl
                      refine lv_iinc (v := 4) (lv' := [(3, .int 4), (2, .int 4), (0, .ref a_0), (1, .int 9)]) hx hb dX12_count_168 hl (k := 1) rfl (by decide) (by decide) rfl ?_
                      clear hl
                      clear ls
                      intro ls hl
                      refine lv_goto (tgt := 145) hx hb dX12_count_171 (by decide) ?_
                      refine lv_iload_n hx hb dX12_count_145 rfl (lv_at hl 0 rfl) ?_
                      refine lv_iconst (v := 4) hx hb dX12_count_146 (by decide) ?_
                      refine lv_icmp_ge (tgt := 174) hx hb dX12_count_147 (by decide) (fun c48 => ?_) (fun c48 => ?_)
                      · refine lv_iload_n hx hb dX12_count_174 rfl (lv_at hl 1 rfl) ?_
                        subst hAe
                        rw [hQ]
                        exact W.iret (v := 4) hx hb hr (fun t ht hW => ⟨⟨4, (), rfl, (mm_wk mm_k4 (by decide)), by rw [ht]; exact hP, hK.warm hW, hD⟩, hS.F ht⟩) hS.2.2 dX12_count_175
                      · have q49 := mm_ltL (h := 3) (mm_nle c48) mm_k4 mm_k4 (by decide)
                        exact mm_no q49 (by decide)
                    · have q50 := mm_eqI (lo := (-1)) (hi := (-1)) c45 rv44 mm_km1 (by decide)
                      refine lv_iconst (v := 0) hx hb dX12_count_161 (by decide) ?_
                      refine lv_goto (tgt := 166) hx hb dX12_count_162 (by decide) ?_
                      refine lv_iadd hx hb dX12_count_166 ?_
                      refine lv_topi (fun v51 ev51 => ?_)
                      obtain rfl : v51 = 3 := ev51.trans (by decide)
                      refine lv_istore_n (lv' := [(2, .int 3), (3, .int 3), (0, .ref a_0), (1, .int 9)]) hx hb dX12_count_167 rfl hl (by decide) rfl ?_
                      clear hl
                      clear ls
                      intro ls hl
                      refine lv_iinc (v := 4) (lv' := [(3, .int 4), (2, .int 3), (0, .ref a_0), (1, .int 9)]) hx hb dX12_count_168 hl (k := 1) rfl (by decide) (by decide) rfl ?_
                      clear hl
                      clear ls
                      intro ls hl
                      refine lv_goto (tgt := 145) hx hb dX12_count_171 (by decide) ?_
                      refine lv_iload_n hx hb dX12_count_145 rfl (lv_at hl 0 rfl) ?_
                      refine lv_iconst (v := 4) hx hb dX12_count_146 (by decide) ?_
                      refine lv_icmp_ge (tgt := 174) hx hb dX12_count_147 (by decide) (fun c52 => ?_) (fun c52 => ?_)
                      · refine lv_iload_n hx hb dX12_count_174 rfl (lv_at hl 1 rfl) ?_
                        subst hAe
                        rw [hQ]
                        exact W.iret (v := 3) hx hb hr (fun t ht hW => ⟨⟨3, (), rfl, (mm_wk mm_k3 (by decide)), by rw [ht]; exact hP, hK.warm hW, hD⟩, hS.F ht⟩) hS.2.2 dX12_count_175
                      · have q53 := mm_ltL (h := 3) (mm_nle c52) mm_k4 mm_k4 (by decide)
                        exact mm_no q53 (by decide)
                · have q54 := mm_eqI (lo := (-1)) (hi := (-1)) c39 rv38 mm_km1 (by decide)
                  refine lv_iconst (v := 0) hx hb dX12_count_161 (by decide) ?_
                  refine lv_goto (tgt := 166) hx hb dX12_count_162 (by decide) ?_
                  refine lv_iadd hx hb dX12_count_166 ?_
                  refine lv_topi (fun v55 ev55 => ?_)
                  obtain rfl : v55 = 2 := ev55.trans (by decide)
                  refine lv_istore_n (lv' := [(2, .int 2), (3, .int 2), (0, .ref a_0), (1, .int 9)]) hx hb dX12_count_167 rfl hl (by decide) rfl ?_
                  clear hl
                  clear ls
                  intro ls hl
                  refine lv_iinc (v := 3) (lv' := [(3, .int 3), (2, .int 2), (0, .ref a_0), (1, .int 9)]) hx hb dX12_count_168 hl (k := 1) rfl (by decide) (by decide) rfl ?_
                  clear hl
                  clear ls
                  intro ls hl
                  refine lv_goto (tgt := 145) hx hb dX12_count_171 (by decide) ?_
                  refine lv_iload_n hx hb dX12_count_145 rfl (lv_at hl 0 rfl) ?_
                  refine lv_iconst (v := 4) hx hb dX12_count_146 (by decide) ?_
                  refine lv_icmp_ge (tgt := 174) hx hb dX12_count_147 (by decide) (fun c56 => ?_) (fun c56 => ?_)
                  · have q57 := mm_leL (mm_le c56) mm_k4 mm_k3
                    exact mm_no q57 (by decide)
                  · refine lv_iload_n hx hb dX12_count_150 rfl (lv_at hl 1 rfl) ?_
                    refine lv_aload_n hx hb dX12_count_151 rfl (lv_at hl 2 rfl) ?_
                    refine va_get (D := G) (ci := 12) (v := .ref a_1) (C := RX12) (T := TX12) (N := 38) hx hb hts (mm_i inlX12) hown hK.1 hP 0 rfl rfl 1 (by decide) (mm_h hts mm_w142) (fun _ h9 => h9) rfl dX12_count_152 ?_
                    refine lv_iload_n hx hb dX12_count_155 rfl (lv_at hl 0 rfl) ?_
                    refine va_iald hx hb hK.1 hP 1 1 rfl rfl (mm_in mm_k3 (by decide)) dX12_count_156 ?_
                    refine lv_topi (fun v58 ev58 => ?_)
                    have rv58 : mm_rg v58 (-1) 3 := mm_eqv ev58 (h1 _)
                    refine lv_iconst (v := (-1)) hx hb dX12_count_157 (by decide) ?_
                    refine lv_icmp_ne (tgt := 165) hx hb dX12_count_158 (by decide) (fun c59 => ?_) (fun c59 => ?_)
                    · have q60 := mm_neL (lo := 0) (mm_ne c59) rv58 mm_km1 (by decide) (by decide)
                      refine lv_iconst (v := 1) hx hb dX12_count_165 (by decide) ?_
                      refine lv_iadd hx hb dX12_count_166 ?_
                      refine lv_topi (fun v61 ev61 => ?_)
                      obtain rfl : v61 = 3 := ev61.trans (by decide)
                      refine lv_istore_n (lv' := [(2, .int 3), (3, .int 3), (0, .ref a_0), (1, .int 9)]) hx hb dX12_count_167 rfl hl (by decide) rfl ?_
                      clear hl
                      clear ls
                      intro ls hl
                      refine lv_iinc (v := 4) (lv' := [(3, .int 4), (2, .int 3), (0, .ref a_0), (1, .int 9)]) hx hb dX12_count_168 hl (k := 1) rfl (by decide) (by decide) rfl ?_
                      clear hl
                      clear ls
                      intro ls hl
                      refine lv_goto (tgt := 145) hx hb dX12_count_171 (by decide) ?_
                      refine lv_iload_n hx hb dX12_count_145 rfl (lv_at hl 0 rfl) ?_
                      refine lv_iconst (v := 4) hx hb dX12_count_146 (by decide) ?_
                      refine lv_icmp_ge (tgt := 174) hx hb dX12_count_147 (by decide) (fun c62 => ?_) (fun c62 => ?_)
                      · refine lv_iload_n hx hb dX12_count_174 rfl (lv_at hl 1 rfl) ?_
                        subst hAe
                        rw [hQ]
                        exact W.iret (v := 3) hx hb hr (fun t ht hW => ⟨⟨3, (), rfl, (mm_wk mm_k3 (by decide)), by rw [ht]; exact hP, hK.warm hW, hD⟩, hS.F ht⟩) hS.2.2 dX12_count_175
                      · have q63 := mm_ltL (h := 3) (mm_nle c62) mm_k4 mm_k4 (by decide)
                        exact mm_no q63 (by decide)
                    · have q64 := mm_eqI (lo := (-1)) (hi := (-1)) c59 rv58 mm_km1 (by decide)
                      refine lv_iconst (v := 0) hx hb dX12_count_161 (by decide) ?_
                      refine lv_goto (tgt := 166) hx hb dX12_count_162 (by decide) ?_
                      refine lv_iadd hx hb dX12_count_166 ?_
                      refine lv_topi (fun v65 ev65 => ?_)
                      obtain rfl : v65 = 2 := ev65.trans (by decide)
                      refine lv_istore_n (lv' := [(2, .int 2), (3, .int 3), (0, .ref a_0), (1, .int 9)]) hx hb dX12_count_167 rfl hl (by decide) rfl ?_
                      clear hl
                      clear ls
                      intro ls hl
                      refine lv_iinc (v := 4) (lv' := [(3, .int 4), (2, .int 2), (0, .ref a_0), (1, .int 9)]) hx hb dX12_count_168 hl (k := 1) rfl (by decide) (by decide) rfl ?_
                      clear hl
                      clear ls
                      intro ls hl
                      refine lv_goto (tgt := 145) hx hb dX12_count_171 (by decide) ?_
                      refine lv_iload_n hx hb dX12_count_145 rfl (lv_at hl 0 rfl) ?_
                      refine lv_iconst (v := 4) hx hb dX12_count_146 (by decide) ?_
                      refine lv_icmp_ge (tgt := 174) hx hb dX12_count_147 (by decide) (fun c66 => ?_) (fun c66 => ?_)
                      · refine lv_iload_n hx hb dX12_count_174 rfl (lv_at hl 1 rfl) ?_
                        subst hAe
                        rw [hQ]
                        exact W.iret (v := 2) hx hb hr (fun t ht hW => ⟨⟨2, (), rfl, (mm_wk mm_k2 (by decide)), by rw [ht]; exact hP, hK.warm hW, hD⟩, hS.F ht⟩) hS.2.2 dX12_count_175
                      · have q67 := mm_ltL (h := 3) (mm_nle c66) mm_k4 mm_k4 (by decide)
                        exact mm_no q67 (by decide)
            · have q68 := mm_eqI (lo := (-1)) (hi := (-1)) c33 rv32 mm_km1 (by decide)
              refine lv_iconst (v := 0) hx hb dX12_count_161 (by decide) ?_
              refine lv_goto (tgt := 166) hx hb dX12_count_162 (by decide) ?_
              refine lv_iadd hx hb dX12_count_166 ?_
              refine lv_topi (fun v69 ev69 => ?_)
              obtain rfl : v69 = 1 := ev69.trans (by decide)
              refine lv_istore_n (lv' := [(2, .int 1), (3, .int 1), (0, .ref a_0), (1, .int 9)]) hx hb dX12_count_167 rfl hl (by decide) rfl ?_
              clear hl
              clear ls
              intro ls hl
              refine lv_iinc (v := 2) (lv' := [(3, .int 2), (2, .int 1), (0, .ref a_0), (1, .int 9)]) hx hb dX12_count_168 hl (k := 1) rfl (by decide) (by decide) rfl ?_
              clear hl
              clear ls
              intro ls hl
              refine lv_goto (tgt := 145) hx hb dX12_count_171 (by decide) ?_
              refine lv_iload_n hx hb dX12_count_145 rfl (lv_at hl 0 rfl) ?_
              refine lv_iconst (v := 4) hx hb dX12_count_146 (by decide) ?_
              refine lv_icmp_ge (tgt := 174) hx hb dX12_count_147 (by decide) (fun c70 => ?_) (fun c70 => ?_)
              · have q71 := mm_leL (mm_le c70) mm_k4 mm_k2
                exact mm_no q71 (by decide)
              · refine lv_iload_n hx hb dX12_count_150 rfl (lv_at hl 1 rfl) ?_
                refine lv_aload_n hx hb dX12_count_151 rfl (lv_at hl 2 rfl) ?_
                refine va_get (D := G) (ci := 12) (v := .ref a_1) (C := RX12) (T := TX12) (N := 38) hx hb hts (mm_i inlX12) hown hK.1 hP 0 rfl rfl 1 (by decide) (mm_h hts mm_w142) (fun _ h9 => h9) rfl dX12_count_152 ?_
                refine lv_iload_n hx hb dX12_count_155 rfl (lv_at hl 0 rfl) ?_
                refine va_iald hx hb hK.1 hP 1 1 rfl rfl (mm_in mm_k2 (by decide)) dX12_count_156 ?_
                refine lv_topi (fun v72 ev72 => ?_)
                have rv72 : mm_rg v72 (-1) 3 := mm_eqv ev72 (h1 _)
                refine lv_iconst (v := (-1)) hx hb dX12_count_157 (by decide) ?_
                refine lv_icmp_ne (tgt := 165) hx hb dX12_count_158 (by decide) (fun c73 => ?_) (fun c73 => ?_)
                · have q74 := mm_neL (lo := 0) (mm_ne c73) rv72 mm_km1 (by decide) (by decide)
                  refine lv_iconst (v := 1) hx hb dX12_count_165 (by decide) ?_
                  refine lv_iadd hx hb dX12_count_166 ?_
                  refine lv_topi (fun v75 ev75 => ?_)
                  obtain rfl : v75 = 2 := ev75.trans (by decide)
                  refine lv_istore_n (lv' := [(2, .int 2), (3, .int 2), (0, .ref a_0), (1, .int 9)]) hx hb dX12_count_167 rfl hl (by decide) rfl ?_
                  clear hl
                  clear ls
                  intro ls hl
                  refine lv_iinc (v := 3) (lv' := [(3, .int 3), (2, .int 2), (0, .ref a_0), (1, .int 9)]) hx hb dX12_count_168 hl (k := 1) rfl (by decide) (by decide) rfl ?_
                  clear hl
                  clear ls
                  intro ls hl
                  refine lv_goto (tgt := 145) hx hb dX12_count_171 (by decide) ?_
                  refine lv_iload_n hx hb dX12_count_145 rfl (lv_at hl 0 rfl) ?_
                  refine lv_iconst (v := 4) hx hb dX12_count_146 (by decide) ?_
                  refine lv_icmp_ge (tgt := 174) hx hb dX12_count_147 (by decide) (fun c76 => ?_) (fun c76 => ?_)
                  · have q77 := mm_leL (mm_le c76) mm_k4 mm_k3
                    exact mm_no q77 (by decide)
                  · refine lv_iload_n hx hb dX12_count_150 rfl (lv_at hl 1 rfl) ?_
                    refine lv_aload_n hx hb dX12_count_151 rfl (lv_at hl 2 rfl) ?_
                    refine va_get (D := G) (ci := 12) (v := .ref a_1) (C := RX12) (T := TX12) (N := 38) hx hb hts (mm_i inlX12) hown hK.1 hP 0 rfl rfl 1 (by decide) (mm_h hts mm_w142) (fun _ h9 => h9) rfl dX12_count_152 ?_
                    refine lv_iload_n hx hb dX12_count_155 rfl (lv_at hl 0 rfl) ?_
                    refine va_iald hx hb hK.1 hP 1 1 rfl rfl (mm_in mm_k3 (by decide)) dX12_count_156 ?_
                    refine lv_topi (fun v78 ev78 => ?_)
                    have rv78 : mm_rg v78 (-1) 3 := mm_eqv ev78 (h1 _)
                    refine lv_iconst (v := (-1)) hx hb dX12_count_157 (by decide) ?_
                    refine lv_icmp_ne (tgt := 165) hx hb dX12_count_158 (by decide) (fun c79 => ?_) (fun c79 => ?_)
                    · have q80 := mm_neL (lo := 0) (mm_ne c79) rv78 mm_km1 (by decide) (by decide)
                      refine lv_iconst (v := 1) hx hb dX12_count_165 (by decide) ?_
                      refine lv_iadd hx hb dX12_count_166 ?_
                      refine lv_topi (fun v81 ev81 => ?_)
                      obtain rfl : v81 = 3 := ev81.trans (by decide)
                      refine lv_istore_n (lv' := [(2, .int 3), (3, .int 3), (0, .ref a_0), (1, .int 9)]) hx hb dX12_count_167 rfl hl (by decide) rfl ?_
                      clear hl
                      clear ls
                      intro ls hl
                      refine lv_iinc (v := 4) (lv' := [(3, .int 4), (2, .int 3), (0, .ref a_0), (1, .int 9)]) hx hb dX12_count_168 hl (k := 1) rfl (by decide) (by decide) rfl ?_
                      clear hl
                      clear ls
                      intro ls hl
                      refine lv_goto (tgt := 145) hx hb dX12_count_171 (by decide) ?_
                      refine lv_iload_n hx hb dX12_count_145 rfl (lv_at hl 0 rfl) ?_
                      refine lv_iconst (v := 4) hx hb dX12_count_146 (by decide) ?_
                      refine lv_icmp_ge (tgt := 174) hx hb dX12_count_147 (by decide) (fun c82 => ?_) (fun c82 => ?_)
                      · refine lv_iload_n hx hb dX12_count_174 rfl (lv_at hl 1 rfl) ?_
                        subst hAe
                        rw [hQ]
                        exact W.iret (v := 3) hx hb hr (fun t ht hW => ⟨⟨3, (), rfl, (mm_wk mm_k3 (by decide)), by rw [ht]; exact hP, hK.warm hW, hD⟩, hS.F ht⟩) hS.2.2 dX12_count_175
                      · have q83 := mm_ltL (h := 3) (mm_nle c82) mm_k4 mm_k4 (by decide)
                        exact mm_no q83 (by decide)
                    · have q84 := mm_eqI (lo := (-1)) (hi := (-1)) c79 rv78 mm_km1 (by decide)
                      refine lv_iconst (v := 0) hx hb dX12_count_161 (by decide) ?_
                      refine lv_goto (tgt := 166) hx hb dX12_count_162 (by decide) ?_
                      refine lv_iadd hx hb dX12_count_166 ?_
                      refine lv_topi (fun v85 ev85 => ?_)
                      obtain rfl : v85 = 2 := ev85.trans (by decide)
                      refine lv_istore_n (lv' := [(2, .int 2), (3, .int 3), (0, .ref a_0), (1, .int 9)]) hx hb dX12_count_167 rfl hl (by decide) rfl ?_
                      clear hl
                      clear ls
                      intro ls hl
                      refine lv_iinc (v := 4) (lv' := [(3, .int 4), (2, .int 2), (0, .ref a_0), (1, .int 9)]) hx hb dX12_count_168 hl (k := 1) rfl (by decide) (by decide) rfl ?_
                      clear hl
                      clear ls
                      intro ls hl
                      refine lv_goto (tgt := 145) hx hb dX12_count_171 (by decide) ?_
                      refine lv_iload_n hx hb dX12_count_145 rfl (lv_at hl 0 rfl) ?_
                      refine lv_iconst (v := 4) hx hb dX12_count_146 (by decide) ?_
                      refine lv_icmp_ge (tgt := 174) hx hb dX12_count_147 (by decide) (fun c86 => ?_) (fun c86 => ?_)
                      · refine lv_iload_n hx hb dX12_count_174 rfl (lv_at hl 1 rfl) ?_
                        subst hAe
                        rw [hQ]
                        exact W.iret (v := 2) hx hb hr (fun t ht hW => ⟨⟨2, (), rfl, (mm_wk mm_k2 (by decide)), by rw [ht]; exact hP, hK.warm hW, hD⟩, hS.F ht⟩) hS.2.2 dX12_count_175
                      · have q87 := mm_ltL (h := 3) (mm_nle c86) mm_k4 mm_k4 (by decide)
                        exact mm_no q87 (by decide)
                · have q88 := mm_eqI (lo := (-1)) (hi := (-1)) c73 rv72 mm_km1 (by decide)
                  refine lv_iconst (v := 0) hx hb dX12_count_161 (by decide) ?_
                  refine lv_goto (tgt := 166) hx hb dX12_count_162 (by decide) ?_
                  refine lv_iadd hx hb dX12_count_166 ?_
                  refine lv_topi (fun v89 ev89 => ?_)
                  obtain rfl : v89 = 1 := ev89.trans (by decide)
                  refine lv_istore_n (lv' := [(2, .int 1), (3, .int 2), (0, .ref a_0), (1, .int 9)]) hx hb dX12_count_167 rfl hl (by decide) rfl ?_
                  clear hl
                  clear ls
                  intro ls hl
                  refine lv_iinc (v := 3) (lv' := [(3, .int 3), (2, .int 1), (0, .ref a_0), (1, .int 9)]) hx hb dX12_count_168 hl (k := 1) rfl (by decide) (by decide) rfl ?_
                  clear hl
                  clear ls
                  intro ls hl
                  refine lv_goto (tgt := 145) hx hb dX12_count_171 (by decide) ?_
                  refine lv_iload_n hx hb dX12_count_145 rfl (lv_at hl 0 rfl) ?_
                  refine lv_iconst (v := 4) hx hb dX12_count_146 (by decide) ?_
                  refine lv_icmp_ge (tgt := 174) hx hb dX12_count_147 (by decide) (fun c90 => ?_) (fun c90 => ?_)
                  · have q91 := mm_leL (mm_le c90) mm_k4 mm_k3
                    exact mm_no q91 (by decide)
                  · refine lv_iload_n hx hb dX12_count_150 rfl (lv_at hl 1 rfl) ?_
                    refine lv_aload_n hx hb dX12_count_151 rfl (lv_at hl 2 rfl) ?_
                    refine va_get (D := G) (ci := 12) (v := .ref a_1) (C := RX12) (T := TX12) (N := 38) hx hb hts (mm_i inlX12) hown hK.1 hP 0 rfl rfl 1 (by decide) (mm_h hts mm_w142) (fun _ h9 => h9) rfl dX12_count_152 ?_
                    refine lv_iload_n hx hb dX12_count_155 rfl (lv_at hl 0 rfl) ?_
                    refine va_iald hx hb hK.1 hP 1 1 rfl rfl (mm_in mm_k3 (by decide)) dX12_count_156 ?_
                    refine lv_topi (fun v92 ev92 => ?_)
                    have rv92 : mm_rg v92 (-1) 3 := mm_eqv ev92 (h1 _)
                    refine lv_iconst (v := (-1)) hx hb dX12_count_157 (by decide) ?_
                    refine lv_icmp_ne (tgt := 165) hx hb dX12_count_158 (by decide) (fun c93 => ?_) (fun c93 => ?_)
                    · have q94 := mm_neL (lo := 0) (mm_ne c93) rv92 mm_km1 (by decide) (by decide)
                      refine lv_iconst (v := 1) hx hb dX12_count_165 (by decide) ?_
                      refine lv_iadd hx hb dX12_count_166 ?_
                      refine lv_topi (fun v95 ev95 => ?_)
                      obtain rfl : v95 = 2 := ev95.trans (by decide)
                      refine lv_istore_n (lv' := [(2, .int 2), (3, .int 3), (0, .ref a_0), (1, .int 9)]) hx hb dX12_count_167 rfl hl (by decide) rfl ?_
                      clear hl
                      clear ls
                      intro ls hl
                      refine lv_iinc (v := 4) (lv' := [(3, .int 4), (2, .int 2), (0, .ref a_0), (1, .int 9)]) hx hb dX12_count_168 hl (k := 1) rfl (by decide) (by decide) rfl ?_
                      clear hl
                      clear ls
                      intro ls hl
                      refine lv_goto (tgt := 145) hx hb dX12_count_171 (by decide) ?_
                      refine lv_iload_n hx hb dX12_count_145 rfl (lv_at hl 0 rfl) ?_
                      refine lv_iconst (v := 4) hx hb dX12_count_146 (by decide) ?_
                      refine lv_icmp_ge (tgt := 174) hx hb dX12_count_147 (by decide) (fun c96 => ?_) (fun c96 => ?_)
                      · refine lv_iload_n hx hb dX12_count_174 rfl (lv_at hl 1 rfl) ?_
                        subst hAe
                        rw [hQ]
                        exact W.iret (v := 2) hx hb hr (fun t ht hW => ⟨⟨2, (), rfl, (mm_wk mm_k2 (by decide)), by rw [ht]; exact hP, hK.warm hW, hD⟩, hS.F ht⟩) hS.2.2 dX12_count_175
                      · have q97 := mm_ltL (h := 3) (mm_nle c96) mm_k4 mm_k4 (by decide)
                        exact mm_no q97 (by decide)
                    · have q98 := mm_eqI (lo := (-1)) (hi := (-1)) c93 rv92 mm_km1 (by decide)
                      refine lv_iconst (v := 0) hx hb dX12_count_161 (by decide) ?_
                      refine lv_goto (tgt := 166) hx hb dX12_count_162 (by decide) ?_
                      refine lv_iadd hx hb dX12_count_166 ?_
                      refine lv_topi (fun v99 ev99 => ?_)
                      obtain rfl : v99 = 1 := ev99.trans (by decide)
                      refine lv_istore_n (lv' := [(2, .int 1), (3, .int 3), (0, .ref a_0), (1, .int 9)]) hx hb dX12_count_167 rfl hl (by decide) rfl ?_
                      clear hl
                      clear ls
                      intro ls hl
                      refine lv_iinc (v := 4) (lv' := [(3, .int 4), (2, .int 1), (0, .ref a_0), (1, .int 9)]) hx hb dX12_count_168 hl (k := 1) rfl (by decide) (by decide) rfl ?_
                      clear hl
                      clear ls
                      intro ls hl
                      refine lv_goto (tgt := 145) hx hb dX12_count_171 (by decide) ?_
                      refine lv_iload_n hx hb dX12_count_145 rfl (lv_at hl 0 rfl) ?_
                      refine lv_iconst (v := 4) hx hb dX12_count_146 (by decide) ?_
                      refine lv_icmp_ge (tgt := 174) hx hb dX12_count_147 (by decide) (fun c100 => ?_) (fun c100 => ?_)
                      · refine lv_iload_n hx hb dX12_count_174 rfl (lv_at hl 1 rfl) ?_
                        subst hAe
                        rw [hQ]
                        exact W.iret (v := 1) hx hb hr (fun t ht hW => ⟨⟨1, (), rfl, (mm_wk mm_k1 (by decide)), by rw [ht]; exact hP, hK.warm hW, hD⟩, hS.F ht⟩) hS.2.2 dX12_count_175
                      · have q101 := mm_ltL (h := 3) (mm_nle c100) mm_k4 mm_k4 (by decide)
                        exact mm_no q101 (by decide)
        · have q102 := mm_eqI (lo := (-1)) (hi := (-1)) c27 rv26 mm_km1 (by decide)
          refine lv_iconst (v := 0) hx hb dX12_count_161 (by decide) ?_
          refine lv_goto (tgt := 166) hx hb dX12_count_162 (by decide) ?_
          refine lv_iadd hx hb dX12_count_166 ?_
          refine lv_topi (fun v103 ev103 => ?_)
          obtain rfl : v103 = 0 := ev103.trans (by decide)
          refine lv_istore_n (lv' := [(2, .int 0), (3, .int 0), (0, .ref a_0), (1, .int 9)]) hx hb dX12_count_167 rfl hl (by decide) rfl ?_
          clear hl
          clear ls
          intro ls hl
          refine lv_iinc (v := 1) (lv' := [(3, .int 1), (2, .int 0), (0, .ref a_0), (1, .int 9)]) hx hb dX12_count_168 hl (k := 1) rfl (by decide) (by decide) rfl ?_
          clear hl
          clear ls
          intro ls hl
          refine lv_goto (tgt := 145) hx hb dX12_count_171 (by decide) ?_
          refine lv_iload_n hx hb dX12_count_145 rfl (lv_at hl 0 rfl) ?_
          refine lv_iconst (v := 4) hx hb dX12_count_146 (by decide) ?_
          refine lv_icmp_ge (tgt := 174) hx hb dX12_count_147 (by decide) (fun c104 => ?_) (fun c104 => ?_)
          · have q105 := mm_leL (mm_le c104) mm_k4 mm_k1
            exact mm_no q105 (by decide)
          · refine lv_iload_n hx hb dX12_count_150 rfl (lv_at hl 1 rfl) ?_
            refine lv_aload_n hx hb dX12_count_151 rfl (lv_at hl 2 rfl) ?_
            refine va_get (D := G) (ci := 12) (v := .ref a_1) (C := RX12) (T := TX12) (N := 38) hx hb hts (mm_i inlX12) hown hK.1 hP 0 rfl rfl 1 (by decide) (mm_h hts mm_w142) (fun _ h9 => h9) rfl dX12_count_152 ?_
            refine lv_iload_n hx hb dX12_count_155 rfl (lv_at hl 0 rfl) ?_
            refine va_iald hx hb hK.1 hP 1 1 rfl rfl (mm_in mm_k1 (by decide)) dX12_count_156 ?_
            refine lv_topi (fun v106 ev106 => ?_)
            have rv106 : mm_rg v106 (-1) 3 := mm_eqv ev106 (h1 _)
            refine lv_iconst (v := (-1)) hx hb dX12_count_157 (by decide) ?_
            refine lv_icmp_ne (tgt := 165) hx hb dX12_count_158 (by decide) (fun c107 => ?_) (fun c107 => ?_)
            · have q108 := mm_neL (lo := 0) (mm_ne c107) rv106 mm_km1 (by decide) (by decide)
              refine lv_iconst (v := 1) hx hb dX12_count_165 (by decide) ?_
              refine lv_iadd hx hb dX12_count_166 ?_
              refine lv_topi (fun v109 ev109 => ?_)
              obtain rfl : v109 = 1 := ev109.trans (by decide)
              refine lv_istore_n (lv' := [(2, .int 1), (3, .int 1), (0, .ref a_0), (1, .int 9)]) hx hb dX12_count_167 rfl hl (by decide) rfl ?_
              clear hl
              clear ls
              intro ls hl
              refine lv_iinc (v := 2) (lv' := [(3, .int 2), (2, .int 1), (0, .ref a_0), (1, .int 9)]) hx hb dX12_count_168 hl (k := 1) rfl (by decide) (by decide) rfl ?_
              clear hl
              clear ls
              intro ls hl
              refine lv_goto (tgt := 145) hx hb dX12_count_171 (by decide) ?_
              refine lv_iload_n hx hb dX12_count_145 rfl (lv_at hl 0 rfl) ?_
              refine lv_iconst (v := 4) hx hb dX12_count_146 (by decide) ?_
              refine lv_icmp_ge (tgt := 174) hx hb dX12_count_147 (by decide) (fun c110 => ?_) (fun c110 => ?_)
              · have q111 := mm_leL (mm_le c110) mm_k4 mm_k2
                exact mm_no q111 (by decide)
              · refine lv_iload_n hx hb dX12_count_150 rfl (lv_at hl 1 rfl) ?_
                refine lv_aload_n hx hb dX12_count_151 rfl (lv_at hl 2 rfl) ?_
                refine va_get (D := G) (ci := 12) (v := .ref a_1) (C := RX12) (T := TX12) (N := 38) hx hb hts (mm_i inlX12) hown hK.1 hP 0 rfl rfl 1 (by decide) (mm_h hts mm_w142) (fun _ h9 => h9) rfl dX12_count_152 ?_
                refine lv_iload_n hx hb dX12_count_155 rfl (lv_at hl 0 rfl) ?_
                refine va_iald hx hb hK.1 hP 1 1 rfl rfl (mm_in mm_k2 (by decide)) dX12_count_156 ?_
                refine lv_topi (fun v112 ev112 => ?_)
                have rv112 : mm_rg v112 (-1) 3 := mm_eqv ev112 (h1 _)
                refine lv_iconst (v := (-1)) hx hb dX12_count_157 (by decide) ?_
                refine lv_icmp_ne (tgt := 165) hx hb dX12_count_158 (by decide) (fun c113 => ?_) (fun c113 => ?_)
                · have q114 := mm_neL (lo := 0) (mm_ne c113) rv112 mm_km1 (by decide) (by decide)
                  refine lv_iconst (v := 1) hx hb dX12_count_165 (by decide) ?_
                  refine lv_iadd hx hb dX12_count_166 ?_
                  refine lv_topi (fun v115 ev115 => ?_)
                  obtain rfl : v115 = 2 := ev115.trans (by decide)
                  refine lv_istore_n (lv' := [(2, .int 2), (3, .int 2), (0, .ref a_0), (1, .int 9)]) hx hb dX12_count_167 rfl hl (by decide) rfl ?_
                  clear hl
                  clear ls
                  intro ls hl
                  refine lv_iinc (v := 3) (lv' := [(3, .int 3), (2, .int 2), (0, .ref a_0), (1, .int 9)]) hx hb dX12_count_168 hl (k := 1) rfl (by decide) (by decide) rfl ?_
                  clear hl
                  clear ls
                  intro ls hl
                  refine lv_goto (tgt := 145) hx hb dX12_count_171 (by decide) ?_
                  refine lv_iload_n hx hb dX12_count_145 rfl (lv_at hl 0 rfl) ?_
                  refine lv_iconst (v := 4) hx hb dX12_count_146 (by decide) ?_
                  refine lv_icmp_ge (tgt := 174) hx hb dX12_count_147 (by decide) (fun c116 => ?_) (fun c116 => ?_)
                  · have q117 := mm_leL (mm_le c116) mm_k4 mm_k3
                    exact mm_no q117 (by decide)
                  · refine lv_iload_n hx hb dX12_count_150 rfl (lv_at hl 1 rfl) ?_
                    refine lv_aload_n hx hb dX12_count_151 rfl (lv_at hl 2 rfl) ?_
                    refine va_get (D := G) (ci := 12) (v := .ref a_1) (C := RX12) (T := TX12) (N := 38) hx hb hts (mm_i inlX12) hown hK.1 hP 0 rfl rfl 1 (by decide) (mm_h hts mm_w142) (fun _ h9 => h9) rfl dX12_count_152 ?_
                    refine lv_iload_n hx hb dX12_count_155 rfl (lv_at hl 0 rfl) ?_
                    refine va_iald hx hb hK.1 hP 1 1 rfl rfl (mm_in mm_k3 (by decide)) dX12_count_156 ?_
                    refine lv_topi (fun v118 ev118 => ?_)
                    have rv118 : mm_rg v118 (-1) 3 := mm_eqv ev118 (h1 _)
                    refine lv_iconst (v := (-1)) hx hb dX12_count_157 (by decide) ?_
                    refine lv_icmp_ne (tgt := 165) hx hb dX12_count_158 (by decide) (fun c119 => ?_) (fun c119 => ?_)
                    · have q120 := mm_neL (lo := 0) (mm_ne c119) rv118 mm_km1 (by decide) (by decide)
                      refine lv_iconst (v := 1) hx hb dX12_count_165 (by decide) ?_
                      refine lv_iadd hx hb dX12_count_166 ?_
                      refine lv_topi (fun v121 ev121 => ?_)
                      obtain rfl : v121 = 3 := ev121.trans (by decide)
                      refine lv_istore_n (lv' := [(2, .int 3), (3, .int 3), (0, .ref a_0), (1, .int 9)]) hx hb dX12_count_167 rfl hl (by decide) rfl ?_
                      clear hl
                      clear ls
                      intro ls hl
                      refine lv_iinc (v := 4) (lv' := [(3, .int 4), (2, .int 3), (0, .ref a_0), (1, .int 9)]) hx hb dX12_count_168 hl (k := 1) rfl (by decide) (by decide) rfl ?_
                      clear hl
                      clear ls
                      intro ls hl
                      refine lv_goto (tgt := 145) hx hb dX12_count_171 (by decide) ?_
                      refine lv_iload_n hx hb dX12_count_145 rfl (lv_at hl 0 rfl) ?_
                      refine lv_iconst (v := 4) hx hb dX12_count_146 (by decide) ?_
                      refine lv_icmp_ge (tgt := 174) hx hb dX12_count_147 (by decide) (fun c122 => ?_) (fun c122 => ?_)
                      · refine lv_iload_n hx hb dX12_count_174 rfl (lv_at hl 1 rfl) ?_
                        subst hAe
                        rw [hQ]
                        exact W.iret (v := 3) hx hb hr (fun t ht hW => ⟨⟨3, (), rfl, (mm_wk mm_k3 (by decide)), by rw [ht]; exact hP, hK.warm hW, hD⟩, hS.F ht⟩) hS.2.2 dX12_count_175
                      · have q123 := mm_ltL (h := 3) (mm_nle c122) mm_k4 mm_k4 (by decide)
                        exact mm_no q123 (by decide)
                    · have q124 := mm_eqI (lo := (-1)) (hi := (-1)) c119 rv118 mm_km1 (by decide)
                      refine lv_iconst (v := 0) hx hb dX12_count_161 (by decide) ?_
                      refine lv_goto (tgt := 166) hx hb dX12_count_162 (by decide) ?_
                      refine lv_iadd hx hb dX12_count_166 ?_
                      refine lv_topi (fun v125 ev125 => ?_)
                      obtain rfl : v125 = 2 := ev125.trans (by decide)
                      refine lv_istore_n (lv' := [(2, .int 2), (3, .int 3), (0, .ref a_0), (1, .int 9)]) hx hb dX12_count_167 rfl hl (by decide) rfl ?_
                      clear hl
                      clear ls
                      intro ls hl
                      refine lv_iinc (v := 4) (lv' := [(3, .int 4), (2, .int 2), (0, .ref a_0), (1, .int 9)]) hx hb dX12_count_168 hl (k := 1) rfl (by decide) (by decide) rfl ?_
                      clear hl
                      clear ls
                      intro ls hl
                      refine lv_goto (tgt := 145) hx hb dX12_count_171 (by decide) ?_
                      refine lv_iload_n hx hb dX12_count_145 rfl (lv_at hl 0 rfl) ?_
                      refine lv_iconst (v := 4) hx hb dX12_count_146 (by decide) ?_
                      refine lv_icmp_ge (tgt := 174) hx hb dX12_count_147 (by decide) (fun c126 => ?_) (fun c126 => ?_)
                      · refine lv_iload_n hx hb dX12_count_174 rfl (lv_at hl 1 rfl) ?_
                        subst hAe
                        rw [hQ]
                        exact W.iret (v := 2) hx hb hr (fun t ht hW => ⟨⟨2, (), rfl, (mm_wk mm_k2 (by decide)), by rw [ht]; exact hP, hK.warm hW, hD⟩, hS.F ht⟩) hS.2.2 dX12_count_175
                      · have q127 := mm_ltL (h := 3) (mm_nle c126) mm_k4 mm_k4 (by decide)
                        exact mm_no q127 (by decide)
                · have q128 := mm_eqI (lo := (-1)) (hi := (-1)) c113 rv112 mm_km1 (by decide)
                  refine lv_iconst (v := 0) hx hb dX12_count_161 (by decide) ?_
                  refine lv_goto (tgt := 166) hx hb dX12_count_162 (by decide) ?_
                  refine lv_iadd hx hb dX12_count_166 ?_
                  refine lv_topi (fun v129 ev129 => ?_)
                  obtain rfl : v129 = 1 := ev129.trans (by decide)
                  refine lv_istore_n (lv' := [(2, .int 1), (3, .int 2), (0, .ref a_0), (1, .int 9)]) hx hb dX12_count_167 rfl hl (by decide) rfl ?_
                  clear hl
                  clear ls
                  intro ls hl
                  refine lv_iinc (v := 3) (lv' := [(3, .int 3), (2, .int 1), (0, .ref a_0), (1, .int 9)]) hx hb dX12_count_168 hl (k := 1) rfl (by decide) (by decide) rfl ?_
                  clear hl
                  clear ls
                  intro ls hl
                  refine lv_goto (tgt := 145) hx hb dX12_count_171 (by decide) ?_
                  refine lv_iload_n hx hb dX12_count_145 rfl (lv_at hl 0 rfl) ?_
                  refine lv_iconst (v := 4) hx hb dX12_count_146 (by decide) ?_
                  refine lv_icmp_ge (tgt := 174) hx hb dX12_count_147 (by decide) (fun c130 => ?_) (fun c130 => ?_)
                  · have q131 := mm_leL (mm_le c130) mm_k4 mm_k3
                    exact mm_no q131 (by decide)
                  · refine lv_iload_n hx hb dX12_count_150 rfl (lv_at hl 1 rfl) ?_
                    refine lv_aload_n hx hb dX12_count_151 rfl (lv_at hl 2 rfl) ?_
                    refine va_get (D := G) (ci := 12) (v := .ref a_1) (C := RX12) (T := TX12) (N := 38) hx hb hts (mm_i inlX12) hown hK.1 hP 0 rfl rfl 1 (by decide) (mm_h hts mm_w142) (fun _ h9 => h9) rfl dX12_count_152 ?_
                    refine lv_iload_n hx hb dX12_count_155 rfl (lv_at hl 0 rfl) ?_
                    refine va_iald hx hb hK.1 hP 1 1 rfl rfl (mm_in mm_k3 (by decide)) dX12_count_156 ?_
                    refine lv_topi (fun v132 ev132 => ?_)
                    have rv132 : mm_rg v132 (-1) 3 := mm_eqv ev132 (h1 _)
                    refine lv_iconst (v := (-1)) hx hb dX12_count_157 (by decide) ?_
                    refine lv_icmp_ne (tgt := 165) hx hb dX12_count_158 (by decide) (fun c133 => ?_) (fun c133 => ?_)
                    · have q134 := mm_neL (lo := 0) (mm_ne c133) rv132 mm_km1 (by decide) (by decide)
                      refine lv_iconst (v := 1) hx hb dX12_count_165 (by decide) ?_
                      refine lv_iadd hx hb dX12_count_166 ?_
                      refine lv_topi (fun v135 ev135 => ?_)
                      obtain rfl : v135 = 2 := ev135.trans (by decide)
                      refine lv_istore_n (lv' := [(2, .int 2), (3, .int 3), (0, .ref a_0), (1, .int 9)]) hx hb dX12_count_167 rfl hl (by decide) rfl ?_
                      clear hl
                      clear ls
                      intro ls hl
                      refine lv_iinc (v := 4) (lv' := [(3, .int 4), (2, .int 2), (0, .ref a_0), (1, .int 9)]) hx hb dX12_count_168 hl (k := 1) rfl (by decide) (by decide) rfl ?_
                      clear hl
                      clear ls
                      intro ls hl
                      refine lv_goto (tgt := 145) hx hb dX12_count_171 (by decide) ?_
                      refine lv_iload_n hx hb dX12_count_145 rfl (lv_at hl 0 rfl) ?_
                      refine lv_iconst (v := 4) hx hb dX12_count_146 (by decide) ?_
                      refine lv_icmp_ge (tgt := 174) hx hb dX12_count_147 (by decide) (fun c136 => ?_) (fun c136 => ?_)
                      · refine lv_iload_n hx hb dX12_count_174 rfl (lv_at hl 1 rfl) ?_
                        subst hAe
                        rw [hQ]
                        exact W.iret (v := 2) hx hb hr (fun t ht hW => ⟨⟨2, (), rfl, (mm_wk mm_k2 (by decide)), by rw [ht]; exact hP, hK.warm hW, hD⟩, hS.F ht⟩) hS.2.2 dX12_count_175
                      · have q137 := mm_ltL (h := 3) (mm_nle c136) mm_k4 mm_k4 (by decide)
                        exact mm_no q137 (by decide)
                    · have q138 := mm_eqI (lo := (-1)) (hi := (-1)) c133 rv132 mm_km1 (by decide)
                      refine lv_iconst (v := 0) hx hb dX12_count_161 (by decide) ?_
                      refine lv_goto (tgt := 166) hx hb dX12_count_162 (by decide) ?_
                      refine lv_iadd hx hb dX12_count_166 ?_
                      refine lv_topi (fun v139 ev139 => ?_)
                      obtain rfl : v139 = 1 := ev139.trans (by decide)
                      refine lv_istore_n (lv' := [(2, .int 1), (3, .int 3), (0, .ref a_0), (1, .int 9)]) hx hb dX12_count_167 rfl hl (by decide) rfl ?_
                      clear hl
                      clear ls
                      intro ls hl
                      refine lv_iinc (v := 4) (lv' := [(3, .int 4), (2, .int 1), (0, .ref a_0), (1, .int 9)]) hx hb dX12_count_168 hl (k := 1) rfl (by decide) (by decide) rfl ?_
                      clear hl
                      clear ls
                      intro ls hl
                      refine lv_goto (tgt := 145) hx hb dX12_count_171 (by decide) ?_
                      refine lv_iload_n hx hb dX12_count_145 rfl (lv_at hl 0 rfl) ?_
                      refine lv_iconst (v := 4) hx hb dX12_count_146 (by decide) ?_
                      refine lv_icmp_ge (tgt := 174) hx hb dX12_count_147 (by decide) (fun c140 => ?_) (fun c140 => ?_)
                      · refine lv_iload_n hx hb dX12_count_174 rfl (lv_at hl 1 rfl) ?_
                        subst hAe
                        rw [hQ]
                        exact W.iret (v := 1) hx hb hr (fun t ht hW => ⟨⟨1, (), rfl, (mm_wk mm_k1 (by decide)), by rw [ht]; exact hP, hK.warm hW, hD⟩, hS.F ht⟩) hS.2.2 dX12_count_175
                      · have q141 := mm_ltL (h := 3) (mm_nle c140) mm_k4 mm_k4 (by decide)
                        exact mm_no q141 (by decide)
            · have q142 := mm_eqI (lo := (-1)) (hi := (-1)) c107 rv106 mm_km1 (by decide)
              refine lv_iconst (v := 0) hx hb dX12_count_161 (by decide) ?_
              refine lv_goto (tgt := 166) hx hb dX12_count_162 (by decide) ?_
              refine lv_iadd hx hb dX12_count_166 ?_
              refine lv_topi (fun v143 ev143 => ?_)
              obtain rfl : v143 = 0 := ev143.trans (by decide)
              refine lv_istore_n (lv' := [(2, .int 0), (3, .int 1), (0, .ref a_0), (1, .int 9)]) hx hb dX12_count_167 rfl hl (by decide) rfl ?_
              clear hl
              clear ls
              intro ls hl
              refine lv_iinc (v := 2) (lv' := [(3, .int 2), (2, .int 0), (0, .ref a_0), (1, .int 9)]) hx hb dX12_count_168 hl (k := 1) rfl (by decide) (by decide) rfl ?_
              clear hl
              clear ls
              intro ls hl
              refine lv_goto (tgt := 145) hx hb dX12_count_171 (by decide) ?_
              refine lv_iload_n hx hb dX12_count_145 rfl (lv_at hl 0 rfl) ?_
              refine lv_iconst (v := 4) hx hb dX12_count_146 (by decide) ?_
              refine lv_icmp_ge (tgt := 174) hx hb dX12_count_147 (by decide) (fun c144 => ?_) (fun c144 => ?_)
              · have q145 := mm_leL (mm_le c144) mm_k4 mm_k2
                exact mm_no q145 (by decide)
              · refine lv_iload_n hx hb dX12_count_150 rfl (lv_at hl 1 rfl) ?_
                refine lv_aload_n hx hb dX12_count_151 rfl (lv_at hl 2 rfl) ?_
                refine va_get (D := G) (ci := 12) (v := .ref a_1) (C := RX12) (T := TX12) (N := 38) hx hb hts (mm_i inlX12) hown hK.1 hP 0 rfl rfl 1 (by decide) (mm_h hts mm_w142) (fun _ h9 => h9) rfl dX12_count_152 ?_
                refine lv_iload_n hx hb dX12_count_155 rfl (lv_at hl 0 rfl) ?_
                refine va_iald hx hb hK.1 hP 1 1 rfl rfl (mm_in mm_k2 (by decide)) dX12_count_156 ?_
                refine lv_topi (fun v146 ev146 => ?_)
                have rv146 : mm_rg v146 (-1) 3 := mm_eqv ev146 (h1 _)
                refine lv_iconst (v := (-1)) hx hb dX12_count_157 (by decide) ?_
                refine lv_icmp_ne (tgt := 165) hx hb dX12_count_158 (by decide) (fun c147 => ?_) (fun c147 => ?_)
                · have q148 := mm_neL (lo := 0) (mm_ne c147) rv146 mm_km1 (by decide) (by decide)
                  refine lv_iconst (v := 1) hx hb dX12_count_165 (by decide) ?_
                  refine lv_iadd hx hb dX12_count_166 ?_
                  refine lv_topi (fun v149 ev149 => ?_)
                  obtain rfl : v149 = 1 := ev149.trans (by decide)
                  refine lv_istore_n (lv' := [(2, .int 1), (3, .int 2), (0, .ref a_0), (1, .int 9)]) hx hb dX12_count_167 rfl hl (by decide) rfl ?_
                  clear hl
                  clear ls
                  intro ls hl
                  refine lv_iinc (v := 3) (lv' := [(3, .int 3), (2, .int 1), (0, .ref a_0), (1, .int 9)]) hx hb dX12_count_168 hl (k := 1) rfl (by decide) (by decide) rfl ?_
                  clear hl
                  clear ls
                  intro ls hl
                  refine lv_goto (tgt := 145) hx hb dX12_count_171 (by decide) ?_
                  refine lv_iload_n hx hb dX12_count_145 rfl (lv_at hl 0 rfl) ?_
                  refine lv_iconst (v := 4) hx hb dX12_count_146 (by decide) ?_
                  refine lv_icmp_ge (tgt := 174) hx hb dX12_count_147 (by decide) (fun c150 => ?_) (fun c150 => ?_)
                  · have q151 := mm_leL (mm_le c150) mm_k4 mm_k3
                    exact mm_no q151 (by decide)
                  · refine lv_iload_n hx hb dX12_count_150 rfl (lv_at hl 1 rfl) ?_
                    refine lv_aload_n hx hb dX12_count_151 rfl (lv_at hl 2 rfl) ?_
                    refine va_get (D := G) (ci := 12) (v := .ref a_1) (C := RX12) (T := TX12) (N := 38) hx hb hts (mm_i inlX12) hown hK.1 hP 0 rfl rfl 1 (by decide) (mm_h hts mm_w142) (fun _ h9 => h9) rfl dX12_count_152 ?_
                    refine lv_iload_n hx hb dX12_count_155 rfl (lv_at hl 0 rfl) ?_
                    refine va_iald hx hb hK.1 hP 1 1 rfl rfl (mm_in mm_k3 (by decide)) dX12_count_156 ?_
                    refine lv_topi (fun v152 ev152 => ?_)
                    have rv152 : mm_rg v152 (-1) 3 := mm_eqv ev152 (h1 _)
                    refine lv_iconst (v := (-1)) hx hb dX12_count_157 (by decide) ?_
                    refine lv_icmp_ne (tgt := 165) hx hb dX12_count_158 (by decide) (fun c153 => ?_) (fun c153 => ?_)
                    · have q154 := mm_neL (lo := 0) (mm_ne c153) rv152 mm_km1 (by decide) (by decide)
                      refine lv_iconst (v := 1) hx hb dX12_count_165 (by decide) ?_
                      refine lv_iadd hx hb dX12_count_166 ?_
                      refine lv_topi (fun v155 ev155 => ?_)
                      obtain rfl : v155 = 2 := ev155.trans (by decide)
                      refine lv_istore_n (lv' := [(2, .int 2), (3, .int 3), (0, .ref a_0), (1, .int 9)]) hx hb dX12_count_167 rfl hl (by decide) rfl ?_
                      clear hl
                      clear ls
                      intro ls hl
                      refine lv_iinc (v := 4) (lv' := [(3, .int 4), (2, .int 2), (0, .ref a_0), (1, .int 9)]) hx hb dX12_count_168 hl (k := 1) rfl (by decide) (by decide) rfl ?_
                      clear hl
                      clear ls
                      intro ls hl
                      refine lv_goto (tgt := 145) hx hb dX12_count_171 (by decide) ?_
                      refine lv_iload_n hx hb dX12_count_145 rfl (lv_at hl 0 rfl) ?_
                      refine lv_iconst (v := 4) hx hb dX12_count_146 (by decide) ?_
                      refine lv_icmp_ge (tgt := 174) hx hb dX12_count_147 (by decide) (fun c156 => ?_) (fun c156 => ?_)
                      · refine lv_iload_n hx hb dX12_count_174 rfl (lv_at hl 1 rfl) ?_
                        subst hAe
                        rw [hQ]
                        exact W.iret (v := 2) hx hb hr (fun t ht hW => ⟨⟨2, (), rfl, (mm_wk mm_k2 (by decide)), by rw [ht]; exact hP, hK.warm hW, hD⟩, hS.F ht⟩) hS.2.2 dX12_count_175
                      · have q157 := mm_ltL (h := 3) (mm_nle c156) mm_k4 mm_k4 (by decide)
                        exact mm_no q157 (by decide)
                    · have q158 := mm_eqI (lo := (-1)) (hi := (-1)) c153 rv152 mm_km1 (by decide)
                      refine lv_iconst (v := 0) hx hb dX12_count_161 (by decide) ?_
                      refine lv_goto (tgt := 166) hx hb dX12_count_162 (by decide) ?_
                      refine lv_iadd hx hb dX12_count_166 ?_
                      refine lv_topi (fun v159 ev159 => ?_)
                      obtain rfl : v159 = 1 := ev159.trans (by decide)
                      refine lv_istore_n (lv' := [(2, .int 1), (3, .int 3), (0, .ref a_0), (1, .int 9)]) hx hb dX12_count_167 rfl hl (by decide) rfl ?_
                      clear hl
                      clear ls
                      intro ls hl
                      refine lv_iinc (v := 4) (lv' := [(3, .int 4), (2, .int 1), (0, .ref a_0), (1, .int 9)]) hx hb dX12_count_168 hl (k := 1) rfl (by decide) (by decide) rfl ?_
                      clear hl
                      clear ls
                      intro ls hl
                      refine lv_goto (tgt := 145) hx hb dX12_count_171 (by decide) ?_
                      refine lv_iload_n hx hb dX12_count_145 rfl (lv_at hl 0 rfl) ?_
                      refine lv_iconst (v := 4) hx hb dX12_count_146 (by decide) ?_
                      refine lv_icmp_ge (tgt := 174) hx hb dX12_count_147 (by decide) (fun c160 => ?_) (fun c160 => ?_)
                      · refine lv_iload_n hx hb dX12_count_174 rfl (lv_at hl 1 rfl) ?_
                        subst hAe
                        rw [hQ]
                        exact W.iret (v := 1) hx hb hr (fun t ht hW => ⟨⟨1, (), rfl, (mm_wk mm_k1 (by decide)), by rw [ht]; exact hP, hK.warm hW, hD⟩, hS.F ht⟩) hS.2.2 dX12_count_175
                      · have q161 := mm_ltL (h := 3) (mm_nle c160) mm_k4 mm_k4 (by decide)
                        exact mm_no q161 (by decide)
                · have q162 := mm_eqI (lo := (-1)) (hi := (-1)) c147 rv146 mm_km1 (by decide)
                  refine lv_iconst (v := 0) hx hb dX12_count_161 (by decide) ?_
                  refine lv_goto (tgt := 166) hx hb dX12_count_162 (by decide) ?_
                  refine lv_iadd hx hb dX12_count_166 ?_
                  refine lv_topi (fun v163 ev163 => ?_)
                  obtain rfl : v163 = 0 := ev163.trans (by decide)
                  refine lv_istore_n (lv' := [(2, .int 0), (3, .int 2), (0, .ref a_0), (1, .int 9)]) hx hb dX12_count_167 rfl hl (by decide) rfl ?_
                  clear hl
                  clear ls
                  intro ls hl
                  refine lv_iinc (v := 3) (lv' := [(3, .int 3), (2, .int 0), (0, .ref a_0), (1, .int 9)]) hx hb dX12_count_168 hl (k := 1) rfl (by decide) (by decide) rfl ?_
                  clear hl
                  clear ls
                  intro ls hl
                  refine lv_goto (tgt := 145) hx hb dX12_count_171 (by decide) ?_
                  refine lv_iload_n hx hb dX12_count_145 rfl (lv_at hl 0 rfl) ?_
                  refine lv_iconst (v := 4) hx hb dX12_count_146 (by decide) ?_
                  refine lv_icmp_ge (tgt := 174) hx hb dX12_count_147 (by decide) (fun c164 => ?_) (fun c164 => ?_)
                  · have q165 := mm_leL (mm_le c164) mm_k4 mm_k3
                    exact mm_no q165 (by decide)
                  · refine lv_iload_n hx hb dX12_count_150 rfl (lv_at hl 1 rfl) ?_
                    refine lv_aload_n hx hb dX12_count_151 rfl (lv_at hl 2 rfl) ?_
                    refine va_get (D := G) (ci := 12) (v := .ref a_1) (C := RX12) (T := TX12) (N := 38) hx hb hts (mm_i inlX12) hown hK.1 hP 0 rfl rfl 1 (by decide) (mm_h hts mm_w142) (fun _ h9 => h9) rfl dX12_count_152 ?_
                    refine lv_iload_n hx hb dX12_count_155 rfl (lv_at hl 0 rfl) ?_
                    refine va_iald hx hb hK.1 hP 1 1 rfl rfl (mm_in mm_k3 (by decide)) dX12_count_156 ?_
                    refine lv_topi (fun v166 ev166 => ?_)
                    have rv166 : mm_rg v166 (-1) 3 := mm_eqv ev166 (h1 _)
                    refine lv_iconst (v := (-1)) hx hb dX12_count_157 (by decide) ?_
                    refine lv_icmp_ne (tgt := 165) hx hb dX12_count_158 (by decide) (fun c167 => ?_) (fun c167 => ?_)
                    · have q168 := mm_neL (lo := 0) (mm_ne c167) rv166 mm_km1 (by decide) (by decide)
                      refine lv_iconst (v := 1) hx hb dX12_count_165 (by decide) ?_
                      refine lv_iadd hx hb dX12_count_166 ?_
                      refine lv_topi (fun v169 ev169 => ?_)
                      obtain rfl : v169 = 1 := ev169.trans (by decide)
                      refine lv_istore_n (lv' := [(2, .int 1), (3, .int 3), (0, .ref a_0), (1, .int 9)]) hx hb dX12_count_167 rfl hl (by decide) rfl ?_
                      clear hl
                      clear ls
                      intro ls hl
                      refine lv_iinc (v := 4) (lv' := [(3, .int 4), (2, .int 1), (0, .ref a_0), (1, .int 9)]) hx hb dX12_count_168 hl (k := 1) rfl (by decide) (by decide) rfl ?_
                      clear hl
                      clear ls
                      intro ls hl
                      refine lv_goto (tgt := 145) hx hb dX12_count_171 (by decide) ?_
                      refine lv_iload_n hx hb dX12_count_145 rfl (lv_at hl 0 rfl) ?_
                      refine lv_iconst (v := 4) hx hb dX12_count_146 (by decide) ?_
                      refine lv_icmp_ge (tgt := 174) hx hb dX12_count_147 (by decide) (fun c170 => ?_) (fun c170 => ?_)
                      · refine lv_iload_n hx hb dX12_count_174 rfl (lv_at hl 1 rfl) ?_
                        subst hAe
                        rw [hQ]
                        exact W.iret (v := 1) hx hb hr (fun t ht hW => ⟨⟨1, (), rfl, (mm_wk mm_k1 (by decide)), by rw [ht]; exact hP, hK.warm hW, hD⟩, hS.F ht⟩) hS.2.2 dX12_count_175
                      · have q171 := mm_ltL (h := 3) (mm_nle c170) mm_k4 mm_k4 (by decide)
                        exact mm_no q171 (by decide)
                    · have q172 := mm_eqI (lo := (-1)) (hi := (-1)) c167 rv166 mm_km1 (by decide)
                      refine lv_iconst (v := 0) hx hb dX12_count_161 (by decide) ?_
                      refine lv_goto (tgt := 166) hx hb dX12_count_162 (by decide) ?_
                      refine lv_iadd hx hb dX12_count_166 ?_
                      refine lv_topi (fun v173 ev173 => ?_)
                      obtain rfl : v173 = 0 := ev173.trans (by decide)
                      refine lv_istore_n (lv' := [(2, .int 0), (3, .int 3), (0, .ref a_0), (1, .int 9)]) hx hb dX12_count_167 rfl hl (by decide) rfl ?_
                      clear hl
                      clear ls
                      intro ls hl
                      refine lv_iinc (v := 4) (lv' := [(3, .int 4), (2, .int 0), (0, .ref a_0), (1, .int 9)]) hx hb dX12_count_168 hl (k := 1) rfl (by decide) (by decide) rfl ?_
                      clear hl
                      clear ls
                      intro ls hl
                      refine lv_goto (tgt := 145) hx hb dX12_count_171 (by decide) ?_
                      refine lv_iload_n hx hb dX12_count_145 rfl (lv_at hl 0 rfl) ?_
                      refine lv_iconst (v := 4) hx hb dX12_count_146 (by decide) ?_
                      refine lv_icmp_ge (tgt := 174) hx hb dX12_count_147 (by decide) (fun c174 => ?_) (fun c174 => ?_)
                      · refine lv_iload_n hx hb dX12_count_174 rfl (lv_at hl 1 rfl) ?_
                        subst hAe
                        rw [hQ]
                        exact W.iret (v := 0) hx hb hr (fun t ht hW => ⟨⟨0, (), rfl, (mm_wk mm_k0 (by decide)), by rw [ht]; exact hP, hK.warm hW, hD⟩, hS.F ht⟩) hS.2.2 dX12_count_175
                      · have q175 := mm_ltL (h := 3) (mm_nle c174) mm_k4 mm_k4 (by decide)
                        exact mm_no q175 (by decide)

