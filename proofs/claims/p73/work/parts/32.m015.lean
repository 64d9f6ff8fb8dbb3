theorem dX12_back_0 : decode cX12_back 0 = .ok (.aload_n 0, 1) := by decide +kernel
theorem dX12_back_1 : decode cX12_back 1 = .ok (.iconst 0, 1) := by decide +kernel
theorem dX12_back_2 : decode cX12_back 2 = .ok (.putfield 77, 3) := by decide +kernel
theorem dX12_back_5 : decode cX12_back 5 = .ok (.iload_n 1, 1) := by decide +kernel
theorem dX12_back_6 : decode cX12_back 6 = .ok (.i2l, 1) := by decide +kernel
theorem dX12_back_7 : decode cX12_back 7 = .ok (.lconst 0, 1) := by decide +kernel
theorem dX12_back_8 : decode cX12_back 8 = .ok (.ldc2_w 469, 3) := by decide +kernel
theorem dX12_back_11 : decode cX12_back 11 = .ok (.invokestatic 82, 3) := by decide +kernel
theorem dX12_back_14 : decode cX12_back 14 = .ok (.ifCond .ne 6, 3) := by decide +kernel
theorem dX12_back_17 : decode cX12_back 17 = .ok (.bipush (-2), 2) := by decide +kernel
theorem dX12_back_19 : decode cX12_back 19 = .ok (.ireturn, 1) := by decide +kernel
theorem dX12_back_20 : decode cX12_back 20 = .ok (.aload_n 0, 1) := by decide +kernel
theorem dX12_back_21 : decode cX12_back 21 = .ok (.getfield 55, 3) := by decide +kernel
theorem dX12_back_24 : decode cX12_back 24 = .ok (.iload_n 1, 1) := by decide +kernel
theorem dX12_back_25 : decode cX12_back 25 = .ok (.baload, 1) := by decide +kernel
theorem dX12_back_26 : decode cX12_back 26 = .ok (.ifCond .ne 6, 3) := by decide +kernel
theorem dX12_back_29 : decode cX12_back 29 = .ok (.bipush (-6), 2) := by decide +kernel
theorem dX12_back_31 : decode cX12_back 31 = .ok (.ireturn, 1) := by decide +kernel
theorem dX12_back_32 : decode cX12_back 32 = .ok (.aload_n 0, 1) := by decide +kernel
theorem dX12_back_33 : decode cX12_back 33 = .ok (.iconst 1, 1) := by decide +kernel
theorem dX12_back_34 : decode cX12_back 34 = .ok (.iload_n 1, 1) := by decide +kernel
theorem dX12_back_35 : decode cX12_back 35 = .ok (.iadd, 1) := by decide +kernel
theorem dX12_back_36 : decode cX12_back 36 = .ok (.iconst 0, 1) := by decide +kernel
theorem dX12_back_37 : decode cX12_back 37 = .ok (.invokevirtual 244, 3) := by decide +kernel
theorem dX12_back_40 : decode cX12_back 40 = .ok (.iconst 0, 1) := by decide +kernel
theorem dX12_back_41 : decode cX12_back 41 = .ok (.ireturn, 1) := by decide +kernel
theorem dX12_cut_0 : decode cX12_cut 0 = .ok (.iload_n 2, 1) := by decide +kernel
theorem dX12_cut_1 : decode cX12_cut 1 = .ok (.ifCond .ne 10, 3) := by decide +kernel
theorem dX12_cut_4 : decode cX12_cut 4 = .ok (.lload_n 0, 1) := by decide +kernel
theorem dX12_cut_5 : decode cX12_cut 5 = .ok (.l2i, 1) := by decide +kernel
theorem dX12_cut_6 : decode cX12_cut 6 = .ok (.i2b, 1) := by decide +kernel
theorem dX12_cut_7 : decode cX12_cut 7 = .ok (.i2l, 1) := by decide +kernel
theorem dX12_cut_8 : decode cX12_cut 8 = .ok (.goto 27, 3) := by decide +kernel
theorem dX12_cut_11 : decode cX12_cut 11 = .ok (.iload_n 2, 1) := by decide +kernel
theorem dX12_cut_12 : decode cX12_cut 12 = .ok (.iconst 1, 1) := by decide +kernel
theorem dX12_cut_13 : decode cX12_cut 13 = .ok (.if_icmp .ne 10, 3) := by decide +kernel
theorem dX12_cut_16 : decode cX12_cut 16 = .ok (.lload_n 0, 1) := by decide +kernel
theorem dX12_cut_17 : decode cX12_cut 17 = .ok (.l2i, 1) := by decide +kernel
theorem dX12_cut_18 : decode cX12_cut 18 = .ok (.i2s, 1) := by decide +kernel
theorem dX12_cut_19 : decode cX12_cut 19 = .ok (.i2l, 1) := by decide +kernel
theorem dX12_cut_20 : decode cX12_cut 20 = .ok (.goto 15, 3) := by decide +kernel
theorem dX12_cut_23 : decode cX12_cut 23 = .ok (.iload_n 2, 1) := by decide +kernel
theorem dX12_cut_24 : decode cX12_cut 24 = .ok (.iconst 2, 1) := by decide +kernel
theorem dX12_cut_25 : decode cX12_cut 25 = .ok (.if_icmp .ne 9, 3) := by decide +kernel
theorem dX12_cut_28 : decode cX12_cut 28 = .ok (.lload_n 0, 1) := by decide +kernel
theorem dX12_cut_29 : decode cX12_cut 29 = .ok (.l2i, 1) := by decide +kernel
theorem dX12_cut_30 : decode cX12_cut 30 = .ok (.i2l, 1) := by decide +kernel
theorem dX12_cut_31 : decode cX12_cut 31 = .ok (.goto 4, 3) := by decide +kernel
theorem dX12_cut_34 : decode cX12_cut 34 = .ok (.lload_n 0, 1) := by decide +kernel
theorem dX12_cut_35 : decode cX12_cut 35 = .ok (.lreturn, 1) := by decide +kernel
theorem dX12_paste_0 : decode cX12_paste 0 = .ok (.aload_n 0, 1) := by decide +kernel
theorem dX12_paste_1 : decode cX12_paste 1 = .ok (.iconst 0, 1) := by decide +kernel
theorem dX12_paste_2 : decode cX12_paste 2 = .ok (.putfield 77, 3) := by decide +kernel
theorem dX12_paste_5 : decode cX12_paste 5 = .ok (.iload_n 1, 1) := by decide +kernel
theorem dX12_paste_6 : decode cX12_paste 6 = .ok (.invokestatic 86, 3) := by decide +kernel
theorem dX12_paste_9 : decode cX12_paste 9 = .ok (.ifCond .eq 10, 3) := by decide +kernel
theorem dX12_paste_12 : decode cX12_paste 12 = .ok (.iload_n 3, 1) := by decide +kernel
theorem dX12_paste_13 : decode cX12_paste 13 = .ok (.invokestatic 86, 3) := by decide +kernel
theorem dX12_paste_16 : decode cX12_paste 16 = .ok (.ifCond .ne 6, 3) := by decide +kernel
theorem dX12_paste_19 : decode cX12_paste 19 = .ok (.bipush (-2), 2) := by decide +kernel
theorem dX12_paste_21 : decode cX12_paste 21 = .ok (.ireturn, 1) := by decide +kernel
theorem dX12_paste_22 : decode cX12_paste 22 = .ok (.aload_n 0, 1) := by decide +kernel
theorem dX12_paste_23 : decode cX12_paste 23 = .ok (.getfield 7, 3) := by decide +kernel
theorem dX12_paste_26 : decode cX12_paste 26 = .ok (.iload_n 1, 1) := by decide +kernel
theorem dX12_paste_27 : decode cX12_paste 27 = .ok (.iaload, 1) := by decide +kernel
theorem dX12_paste_28 : decode cX12_paste 28 = .ok (.iconst (-1), 1) := by decide +kernel
theorem dX12_paste_29 : decode cX12_paste 29 = .ok (.if_icmp .eq 13, 3) := by decide +kernel
theorem dX12_paste_32 : decode cX12_paste 32 = .ok (.aload_n 0, 1) := by decide +kernel
theorem dX12_paste_33 : decode cX12_paste 33 = .ok (.getfield 7, 3) := by decide +kernel
theorem dX12_paste_36 : decode cX12_paste 36 = .ok (.iload_n 3, 1) := by decide +kernel
theorem dX12_paste_37 : decode cX12_paste 37 = .ok (.iaload, 1) := by decide +kernel
theorem dX12_paste_38 : decode cX12_paste 38 = .ok (.iconst (-1), 1) := by decide +kernel
theorem dX12_paste_39 : decode cX12_paste 39 = .ok (.if_icmp .ne 6, 3) := by decide +kernel
theorem dX12_paste_42 : decode cX12_paste 42 = .ok (.bipush (-6), 2) := by decide +kernel
theorem dX12_paste_44 : decode cX12_paste 44 = .ok (.ireturn, 1) := by decide +kernel
theorem dX12_paste_45 : decode cX12_paste 45 = .ok (.aload_n 0, 1) := by decide +kernel
theorem dX12_paste_46 : decode cX12_paste 46 = .ok (.getfield 7, 3) := by decide +kernel
theorem dX12_paste_49 : decode cX12_paste 49 = .ok (.iload_n 1, 1) := by decide +kernel
theorem dX12_paste_50 : decode cX12_paste 50 = .ok (.iaload, 1) := by decide +kernel
theorem dX12_paste_51 : decode cX12_paste 51 = .ok (.aload_n 0, 1) := by decide +kernel
theorem dX12_paste_52 : decode cX12_paste 52 = .ok (.getfield 7, 3) := by decide +kernel
theorem dX12_paste_55 : decode cX12_paste 55 = .ok (.iload_n 3, 1) := by decide +kernel
theorem dX12_paste_56 : decode cX12_paste 56 = .ok (.iaload, 1) := by decide +kernel
theorem dX12_paste_57 : decode cX12_paste 57 = .ok (.if_icmp .eq 6, 3) := by decide +kernel
theorem dX12_paste_60 : decode cX12_paste 60 = .ok (.bipush (-8), 2) := by decide +kernel
theorem dX12_paste_62 : decode cX12_paste 62 = .ok (.ireturn, 1) := by decide +kernel
theorem dX12_paste_63 : decode cX12_paste 63 = .ok (.iload_n 2, 1) := by decide +kernel
theorem dX12_paste_64 : decode cX12_paste 64 = .ok (.ifCond .lt 48, 3) := by decide +kernel
theorem dX12_paste_67 : decode cX12_paste 67 = .ok (.iload 4, 2) := by decide +kernel
theorem dX12_paste_69 : decode cX12_paste 69 = .ok (.ifCond .lt 43, 3) := by decide +kernel
theorem dX12_paste_72 : decode cX12_paste 72 = .ok (.iload 5, 2) := by decide +kernel
theorem dX12_paste_74 : decode cX12_paste 74 = .ok (.ifCond .lt 38, 3) := by decide +kernel
theorem dX12_paste_77 : decode cX12_paste 77 = .ok (.iload_n 2, 1) := by decide +kernel
theorem dX12_paste_78 : decode cX12_paste 78 = .ok (.i2l, 1) := by decide +kernel
theorem dX12_paste_79 : decode cX12_paste 79 = .ok (.iload 5, 2) := by decide +kernel
theorem dX12_paste_81 : decode cX12_paste 81 = .ok (.i2l, 1) := by decide +kernel
theorem dX12_paste_82 : decode cX12_paste 82 = .ok (.ladd, 1) := by decide +kernel
theorem dX12_paste_83 : decode cX12_paste 83 = .ok (.aload_n 0, 1) := by decide +kernel
theorem dX12_paste_84 : decode cX12_paste 84 = .ok (.getfield 13, 3) := by decide +kernel
theorem dX12_paste_87 : decode cX12_paste 87 = .ok (.iload_n 1, 1) := by decide +kernel
theorem dX12_paste_88 : decode cX12_paste 88 = .ok (.iaload, 1) := by decide +kernel
theorem dX12_paste_89 : decode cX12_paste 89 = .ok (.i2l, 1) := by decide +kernel
theorem dX12_paste_90 : decode cX12_paste 90 = .ok (.lcmp, 1) := by decide +kernel
theorem dX12_paste_91 : decode cX12_paste 91 = .ok (.ifCond .gt 21, 3) := by decide +kernel
theorem dX12_paste_94 : decode cX12_paste 94 = .ok (.iload 4, 2) := by decide +kernel
theorem dX12_paste_96 : decode cX12_paste 96 = .ok (.i2l, 1) := by decide +kernel
theorem dX12_paste_97 : decode cX12_paste 97 = .ok (.iload 5, 2) := by decide +kernel
theorem dX12_paste_99 : decode cX12_paste 99 = .ok (.i2l, 1) := by decide +kernel
theorem dX12_paste_100 : decode cX12_paste 100 = .ok (.ladd, 1) := by decide +kernel
theorem dX12_paste_101 : decode cX12_paste 101 = .ok (.aload_n 0, 1) := by decide +kernel
theorem dX12_paste_102 : decode cX12_paste 102 = .ok (.getfield 13, 3) := by decide +kernel
theorem dX12_paste_105 : decode cX12_paste 105 = .ok (.iload_n 3, 1) := by decide +kernel
theorem dX12_paste_106 : decode cX12_paste 106 = .ok (.iaload, 1) := by decide +kernel
theorem dX12_paste_107 : decode cX12_paste 107 = .ok (.i2l, 1) := by decide +kernel
theorem dX12_paste_108 : decode cX12_paste 108 = .ok (.lcmp, 1) := by decide +kernel
theorem dX12_paste_109 : decode cX12_paste 109 = .ok (.ifCond .le 6, 3) := by decide +kernel
theorem dX12_paste_112 : decode cX12_paste 112 = .ok (.bipush (-7), 2) := by decide +kernel
theorem dX12_paste_114 : decode cX12_paste 114 = .ok (.ireturn, 1) := by decide +kernel
theorem dX12_paste_115 : decode cX12_paste 115 = .ok (.iconst 0, 1) := by decide +kernel
theorem dX12_paste_116 : decode cX12_paste 116 = .ok (.istore 6, 2) := by decide +kernel
theorem dX12_paste_118 : decode cX12_paste 118 = .ok (.iload 6, 2) := by decide +kernel
theorem dX12_paste_120 : decode cX12_paste 120 = .ok (.iload 5, 2) := by decide +kernel
theorem dX12_paste_122 : decode cX12_paste 122 = .ok (.if_icmp .ge 30, 3) := by decide +kernel
theorem dX12_paste_125 : decode cX12_paste 125 = .ok (.aload_n 0, 1) := by decide +kernel
theorem dX12_paste_126 : decode cX12_paste 126 = .ok (.getfield 20, 3) := by decide +kernel
theorem dX12_paste_129 : decode cX12_paste 129 = .ok (.iload 6, 2) := by decide +kernel
theorem dX12_paste_131 : decode cX12_paste 131 = .ok (.aload_n 0, 1) := by decide +kernel
theorem dX12_paste_132 : decode cX12_paste 132 = .ok (.getfield 16, 3) := by decide +kernel
theorem dX12_paste_135 : decode cX12_paste 135 = .ok (.bipush 60, 2) := by decide +kernel
theorem dX12_paste_137 : decode cX12_paste 137 = .ok (.iload_n 1, 1) := by decide +kernel
theorem dX12_paste_138 : decode cX12_paste 138 = .ok (.imul, 1) := by decide +kernel
theorem dX12_paste_139 : decode cX12_paste 139 = .ok (.iload_n 2, 1) := by decide +kernel
theorem dX12_paste_140 : decode cX12_paste 140 = .ok (.iadd, 1) := by decide +kernel
theorem dX12_paste_141 : decode cX12_paste 141 = .ok (.iload 6, 2) := by decide +kernel
theorem dX12_paste_143 : decode cX12_paste 143 = .ok (.iadd, 1) := by decide +kernel
theorem dX12_paste_144 : decode cX12_paste 144 = .ok (.laload, 1) := by decide +kernel
theorem dX12_paste_145 : decode cX12_paste 145 = .ok (.lastore, 1) := by decide +kernel
theorem dX12_paste_146 : decode cX12_paste 146 = .ok (.iinc 6 1, 3) := by decide +kernel
theorem dX12_paste_149 : decode cX12_paste 149 = .ok (.goto (-31), 3) := by decide +kernel
theorem dX12_paste_152 : decode cX12_paste 152 = .ok (.iconst 0, 1) := by decide +kernel
theorem dX12_paste_153 : decode cX12_paste 153 = .ok (.istore 6, 2) := by decide +kernel
theorem dX12_paste_155 : decode cX12_paste 155 = .ok (.iload 6, 2) := by decide +kernel
theorem dX12_paste_157 : decode cX12_paste 157 = .ok (.iload 5, 2) := by decide +kernel
theorem dX12_paste_159 : decode cX12_paste 159 = .ok (.if_icmp .ge 31, 3) := by decide +kernel
theorem dX12_paste_162 : decode cX12_paste 162 = .ok (.aload_n 0, 1) := by decide +kernel
theorem dX12_paste_163 : decode cX12_paste 163 = .ok (.getfield 16, 3) := by decide +kernel
theorem dX12_paste_166 : decode cX12_paste 166 = .ok (.bipush 60, 2) := by decide +kernel
theorem dX12_paste_168 : decode cX12_paste 168 = .ok (.iload_n 3, 1) := by decide +kernel
theorem dX12_paste_169 : decode cX12_paste 169 = .ok (.imul, 1) := by decide +kernel
theorem dX12_paste_170 : decode cX12_paste 170 = .ok (.iload 4, 2) := by decide +kernel
theorem dX12_paste_172 : decode cX12_paste 172 = .ok (.iadd, 1) := by decide +kernel
theorem dX12_paste_173 : decode cX12_paste 173 = .ok (.iload 6, 2) := by decide +kernel
theorem dX12_paste_175 : decode cX12_paste 175 = .ok (.iadd, 1) := by decide +kernel
theorem dX12_paste_176 : decode cX12_paste 176 = .ok (.aload_n 0, 1) := by decide +kernel
theorem dX12_paste_177 : decode cX12_paste 177 = .ok (.getfield 20, 3) := by decide +kernel
theorem dX12_paste_180 : decode cX12_paste 180 = .ok (.iload 6, 2) := by decide +kernel
theorem dX12_paste_182 : decode cX12_paste 182 = .ok (.laload, 1) := by decide +kernel
theorem dX12_paste_183 : decode cX12_paste 183 = .ok (.lastore, 1) := by decide +kernel
theorem dX12_paste_184 : decode cX12_paste 184 = .ok (.iinc 6 1, 3) := by decide +kernel
theorem dX12_paste_187 : decode cX12_paste 187 = .ok (.goto (-32), 3) := by decide +kernel
theorem dX12_paste_190 : decode cX12_paste 190 = .ok (.iconst 0, 1) := by decide +kernel
theorem dX12_paste_191 : decode cX12_paste 191 = .ok (.ireturn, 1) := by decide +kernel
theorem dX12_row_0 : decode cX12_row 0 = .ok (.aload_n 0, 1) := by decide +kernel
theorem dX12_row_1 : decode cX12_row 1 = .ok (.iconst 0, 1) := by decide +kernel
theorem dX12_row_2 : decode cX12_row 2 = .ok (.putfield 77, 3) := by decide +kernel
theorem dX12_row_5 : decode cX12_row 5 = .ok (.iload_n 1, 1) := by decide +kernel
theorem dX12_row_6 : decode cX12_row 6 = .ok (.invokestatic 86, 3) := by decide +kernel
theorem dX12_row_9 : decode cX12_row 9 = .ok (.ifCond .eq 21, 3) := by decide +kernel
theorem dX12_row_12 : decode cX12_row 12 = .ok (.iload_n 2, 1) := by decide +kernel
theorem dX12_row_13 : decode cX12_row 13 = .ok (.i2l, 1) := by decide +kernel
theorem dX12_row_14 : decode cX12_row 14 = .ok (.lconst 0, 1) := by decide +kernel
theorem dX12_row_15 : decode cX12_row 15 = .ok (.ldc2_w 80, 3) := by decide +kernel
theorem dX12_row_18 : decode cX12_row 18 = .ok (.invokestatic 82, 3) := by decide +kernel
theorem dX12_row_21 : decode cX12_row 21 = .ok (.ifCond .eq 9, 3) := by decide +kernel
theorem dX12_row_24 : decode cX12_row 24 = .ok (.iload_n 3, 1) := by decide +kernel
theorem dX12_row_25 : decode cX12_row 25 = .ok (.bipush 60, 2) := by decide +kernel
theorem dX12_row_27 : decode cX12_row 27 = .ok (.if_icmp .le 6, 3) := by decide +kernel
theorem dX12_row_30 : decode cX12_row 30 = .ok (.bipush (-2), 2) := by decide +kernel
theorem dX12_row_32 : decode cX12_row 32 = .ok (.ireturn, 1) := by decide +kernel
theorem dX12_row_33 : decode cX12_row 33 = .ok (.iload_n 3, 1) := by decide +kernel
theorem dX12_row_34 : decode cX12_row 34 = .ok (.ifCond .ge 6, 3) := by decide +kernel
theorem dX12_row_37 : decode cX12_row 37 = .ok (.bipush (-3), 2) := by decide +kernel
theorem dX12_row_39 : decode cX12_row 39 = .ok (.ireturn, 1) := by decide +kernel
theorem dX12_row_40 : decode cX12_row 40 = .ok (.aload_n 0, 1) := by decide +kernel
theorem dX12_row_41 : decode cX12_row 41 = .ok (.getfield 7, 3) := by decide +kernel
theorem dX12_row_44 : decode cX12_row 44 = .ok (.iload_n 1, 1) := by decide +kernel
theorem dX12_row_45 : decode cX12_row 45 = .ok (.iload_n 2, 1) := by decide +kernel
theorem dX12_row_46 : decode cX12_row 46 = .ok (.iastore, 1) := by decide +kernel
theorem dX12_row_47 : decode cX12_row 47 = .ok (.aload_n 0, 1) := by decide +kernel
theorem dX12_row_48 : decode cX12_row 48 = .ok (.getfield 13, 3) := by decide +kernel
theorem dX12_row_51 : decode cX12_row 51 = .ok (.iload_n 1, 1) := by decide +kernel
theorem dX12_row_52 : decode cX12_row 52 = .ok (.iload_n 3, 1) := by decide +kernel
theorem dX12_row_53 : decode cX12_row 53 = .ok (.iastore, 1) := by decide +kernel
theorem dX12_row_54 : decode cX12_row 54 = .ok (.iconst 0, 1) := by decide +kernel
theorem dX12_row_55 : decode cX12_row 55 = .ok (.istore 4, 2) := by decide +kernel
theorem dX12_row_57 : decode cX12_row 57 = .ok (.iload 4, 2) := by decide +kernel
theorem dX12_row_59 : decode cX12_row 59 = .ok (.iload_n 3, 1) := by decide +kernel
theorem dX12_row_60 : decode cX12_row 60 = .ok (.if_icmp .ge 22, 3) := by decide +kernel
theorem dX12_row_63 : decode cX12_row 63 = .ok (.aload_n 0, 1) := by decide +kernel
theorem dX12_row_64 : decode cX12_row 64 = .ok (.getfield 16, 3) := by decide +kernel
theorem dX12_row_67 : decode cX12_row 67 = .ok (.bipush 60, 2) := by decide +kernel
theorem dX12_row_69 : decode cX12_row 69 = .ok (.iload_n 1, 1) := by decide +kernel
theorem dX12_row_70 : decode cX12_row 70 = .ok (.imul, 1) := by decide +kernel
theorem dX12_row_71 : decode cX12_row 71 = .ok (.iload 4, 2) := by decide +kernel
theorem dX12_row_73 : decode cX12_row 73 = .ok (.iadd, 1) := by decide +kernel
theorem dX12_row_74 : decode cX12_row 74 = .ok (.lconst 0, 1) := by decide +kernel
theorem dX12_row_75 : decode cX12_row 75 = .ok (.lastore, 1) := by decide +kernel
theorem dX12_row_76 : decode cX12_row 76 = .ok (.iinc 4 1, 3) := by decide +kernel
theorem dX12_row_79 : decode cX12_row 79 = .ok (.goto (-22), 3) := by decide +kernel
theorem dX12_row_82 : decode cX12_row 82 = .ok (.iconst 0, 1) := by decide +kernel
theorem dX12_row_83 : decode cX12_row 83 = .ok (.ireturn, 1) := by decide +kernel
theorem dX12_write_0 : decode cX12_write 0 = .ok (.aload_n 0, 1) := by decide +kernel
theorem dX12_write_1 : decode cX12_write 1 = .ok (.iconst 0, 1) := by decide +kernel
theorem dX12_write_2 : decode cX12_write 2 = .ok (.putfield 77, 3) := by decide +kernel
theorem dX12_write_5 : decode cX12_write 5 = .ok (.iload_n 1, 1) := by decide +kernel
theorem dX12_write_6 : decode cX12_write 6 = .ok (.invokestatic 86, 3) := by decide +kernel
theorem dX12_write_9 : decode cX12_write 9 = .ok (.ifCond .ne 6, 3) := by decide +kernel
theorem dX12_write_12 : decode cX12_write 12 = .ok (.bipush (-2), 2) := by decide +kernel
theorem dX12_write_14 : decode cX12_write 14 = .ok (.ireturn, 1) := by decide +kernel
theorem dX12_write_15 : decode cX12_write 15 = .ok (.aload_n 0, 1) := by decide +kernel
theorem dX12_write_16 : decode cX12_write 16 = .ok (.getfield 7, 3) := by decide +kernel
theorem dX12_write_19 : decode cX12_write 19 = .ok (.iload_n 1, 1) := by decide +kernel
theorem dX12_write_20 : decode cX12_write 20 = .ok (.iaload, 1) := by decide +kernel
theorem dX12_write_21 : decode cX12_write 21 = .ok (.iconst (-1), 1) := by decide +kernel
theorem dX12_write_22 : decode cX12_write 22 = .ok (.if_icmp .ne 6, 3) := by decide +kernel
theorem dX12_write_25 : decode cX12_write 25 = .ok (.bipush (-6), 2) := by decide +kernel
theorem dX12_write_27 : decode cX12_write 27 = .ok (.ireturn, 1) := by decide +kernel
theorem dX12_write_28 : decode cX12_write 28 = .ok (.iload_n 2, 1) := by decide +kernel
theorem dX12_write_29 : decode cX12_write 29 = .ok (.i2l, 1) := by decide +kernel
theorem dX12_write_30 : decode cX12_write 30 = .ok (.lconst 0, 1) := by decide +kernel
theorem dX12_write_31 : decode cX12_write 31 = .ok (.aload_n 0, 1) := by decide +kernel
theorem dX12_write_32 : decode cX12_write 32 = .ok (.getfield 13, 3) := by decide +kernel
theorem dX12_write_35 : decode cX12_write 35 = .ok (.iload_n 1, 1) := by decide +kernel
theorem dX12_write_36 : decode cX12_write 36 = .ok (.iaload, 1) := by decide +kernel
theorem dX12_write_37 : decode cX12_write 37 = .ok (.iconst 1, 1) := by decide +kernel
theorem dX12_write_38 : decode cX12_write 38 = .ok (.isub, 1) := by decide +kernel
theorem dX12_write_39 : decode cX12_write 39 = .ok (.i2l, 1) := by decide +kernel
theorem dX12_write_40 : decode cX12_write 40 = .ok (.invokestatic 82, 3) := by decide +kernel
theorem dX12_write_43 : decode cX12_write 43 = .ok (.ifCond .ne 6, 3) := by decide +kernel
theorem dX12_write_46 : decode cX12_write 46 = .ok (.bipush (-7), 2) := by decide +kernel
theorem dX12_write_48 : decode cX12_write 48 = .ok (.ireturn, 1) := by decide +kernel
theorem dX12_write_49 : decode cX12_write 49 = .ok (.aload_n 0, 1) := by decide +kernel
theorem dX12_write_50 : decode cX12_write 50 = .ok (.getfield 16, 3) := by decide +kernel
theorem dX12_write_53 : decode cX12_write 53 = .ok (.bipush 60, 2) := by decide +kernel
theorem dX12_write_55 : decode cX12_write 55 = .ok (.iload_n 1, 1) := by decide +kernel
theorem dX12_write_56 : decode cX12_write 56 = .ok (.imul, 1) := by decide +kernel
theorem dX12_write_57 : decode cX12_write 57 = .ok (.iload_n 2, 1) := by decide +kernel
theorem dX12_write_58 : decode cX12_write 58 = .ok (.iadd, 1) := by decide +kernel
theorem dX12_write_59 : decode cX12_write 59 = .ok (.lload_n 3, 1) := by decide +kernel
theorem dX12_write_60 : decode cX12_write 60 = .ok (.aload_n 0, 1) := by decide +kernel
theorem dX12_write_61 : decode cX12_write 61 = .ok (.getfield 7, 3) := by decide +kernel
theorem dX12_write_64 : decode cX12_write 64 = .ok (.iload_n 1, 1) := by decide +kernel
theorem dX12_write_65 : decode cX12_write 65 = .ok (.iaload, 1) := by decide +kernel
theorem dX12_write_66 : decode cX12_write 66 = .ok (.invokestatic 90, 3) := by decide +kernel
theorem dX12_write_69 : decode cX12_write 69 = .ok (.lastore, 1) := by decide +kernel
theorem dX12_write_70 : decode cX12_write 70 = .ok (.iconst 0, 1) := by decide +kernel
theorem dX12_write_71 : decode cX12_write 71 = .ok (.ireturn, 1) := by decide +kernel
theorem hs_X12_cut : yX12_cut.cls ≠ "java/lang/invoke/MethodHandle" ∧ yX12_cut.cls ≠ "java/lang/invoke/VarHandle" ∧ (parseMethodDescriptor yX12_cut.desc).map (fun d => d.parameters.length) = some 2 := by decide +kernel
set_option maxHeartbeats 4000000 in
set_option maxRecDepth 100000 in
theorem M371_X12_copyRow (l : Launch) (G : va_G) (cy : Nat → ClassId) (sz : Nat) (a_0 : Nat) (f_0 : Nat → Int32) (h0 : mm_ar f_0 0 99)  : mm_CV l yX12_copyRow (mm_ws yX12_copyRow cX12_copyRow 5 (none)) ({ frames := 0, cells := 0, slots := 0, locals := 0 } : Room) G cy sz [(a_0, .inl (cy 1, 90, .inl f_0))] [.ref a_0, .int 18, .int 3, .int 0] (fun u : (Nat → Int32) => [(a_0, .inl (cy 1, 90, .inl u))]) (fun u : (Nat → Int32) => mm_ar u 0 99 ∧ mm_crw f_0 u 18 3 0) 0 0 := by
  refine mm_begin (lv := [(0, .ref a_0), (1, .int 18), (2, .int 3), (3, .int 0)]) (by decide) (Nat.le_of_ble_eq_true rfl) rfl ?_
  intro p e s m below meth c A ls R args Q H locs hRe hQ hAe hx hb hr hlocks hml hown hnm hts hsz hA hS hP hK hD hZ hl
  have hRf : R.frames = 0 := by rw [hRe]
  have hRl : R.locals = 0 := by rw [hRe]
  have hRc : R.cells = 0 := by rw [hRe]
  have hRs : R.slots = 0 := by rw [hRe]
  refine lv_iconst (v := 0) hx hb dX12_copyRow_0 (by decide) ?_
  refine lv_istore (lv' := [(4, .int 0), (0, .ref a_0), (1, .int 18), (2, .int 3), (3, .int 0)]) hx hb dX12_copyRow_1 hl (by decide) rfl ?_
  clear hl
  clear ls
  intro ls hl
  have L3_130 : ∀ (n : Nat) (x3_4_128 : Int32) (z3_0_129 : Nat → Int32), mm_rg x3_4_128 0 18 → mm_ar z3_0_129 0 99 → mm_crk f_0 z3_0_129 18 3 0 x3_4_128 → (18 - x3_4_128.toInt).toNat < n → ∀ (H : Heap) (locs : List Loc), va_P G vwCl [(a_0, .inl (cy 1, 90, .inl z3_0_129))] H → va_D A [(a_0, .inl (cy 1, 90, .inl z3_0_129))] → va_S A s.heap H locs → ∀ (ls : Array Slot), lv_has ls 5 [(4, .int x3_4_128), (0, .ref a_0), (1, .int 18), (2, .int 3), (3, .int 0)] → W p l e R s m args below meth c H locs 0 0 Q (F0 m 3 ls []) := by
    intro n
    induction n with
    | zero => intro x3_4_128 z3_0_129 rx3_4_128 rz3_0_129 w130 hm; exact absurd hm (Nat.not_lt_zero _)
    | succ n ih3 =>
      intro x3_4_128 z3_0_129 rx3_4_128 rz3_0_129 w130 hm3 H locs hP hD hS ls hl
      refine lv_iload hx hb dX12_copyRow_3 (lv_at hl 0 rfl) ?_
      refine lv_iload_n hx hb dX12_copyRow_5 rfl (lv_at hl 2 rfl) ?_
      refine lv_icmp_ge (tgt := 31) hx hb dX12_copyRow_6 (by decide) (fun c132 => ?_) (fun c132 => ?_)
      · have q133 := mm_leR (mm_le c132) mm_k18 rx3_4_128
        have w134 : mm_crw f_0 z3_0_129 18 3 0 := (mm_crw_of w130 q133 (by decide))
        subst hAe
        rw [hQ]
        exact W.vret hx hb hr (fun t ht hW => ⟨⟨z3_0_129, rfl, ⟨rz3_0_129, w134⟩, by rw [ht]; exact hP, hK.warm hW, hD⟩, hS.F ht⟩) hS.2.2 dX12_copyRow_31
      · have q135 := mm_ltL (h := 17) (mm_nle c132) rx3_4_128 mm_k18 (by decide)
        refine lv_aload_n hx hb dX12_copyRow_9 rfl (lv_at hl 1 rfl) ?_
        refine lv_iload_n hx hb dX12_copyRow_10 rfl (lv_at hl 2 rfl) ?_
        refine lv_iload_n hx hb dX12_copyRow_11 rfl (lv_at hl 4 rfl) ?_
        refine lv_imul hx hb dX12_copyRow_12 ?_
        refine lv_topi (fun v136 ev136 => ?_)
        obtain rfl : v136 = 0 := ev136.trans (by decide)
        refine lv_iload hx hb dX12_copyRow_13 (lv_at hl 0 rfl) ?_
        refine lv_iadd hx hb dX12_copyRow_15 ?_
        refine lv_topi (fun v137 ev137 => ?_)
        have rv137 : mm_rg v137 0 17 := mm_add ev137 mm_k0 q135 (by decide) (by decide)
        have tv137 := mm_addEd ev137 mm_k0 q135 (by decide) (k := 0) (by decide)
        refine lv_aload_n hx hb dX12_copyRow_16 rfl (lv_at hl 1 rfl) ?_
        refine lv_iload_n hx hb dX12_copyRow_17 rfl (lv_at hl 2 rfl) ?_
        refine lv_iload_n hx hb dX12_copyRow_18 rfl (lv_at hl 3 rfl) ?_
        refine lv_imul hx hb dX12_copyRow_19 ?_
        refine lv_topi (fun v138 ev138 => ?_)
        obtain rfl : v138 = 54 := ev138.trans (by decide)
        refine lv_iload hx hb dX12_copyRow_20 (lv_at hl 0 rfl) ?_
        refine lv_iadd hx hb dX12_copyRow_22 ?_
        refine lv_topi (fun v139 ev139 => ?_)
        have rv139 : mm_rg v139 54 71 := mm_add ev139 mm_k54 q135 (by decide) (by decide)
        have tv139 := mm_addEd ev139 mm_k54 q135 (by decide) (k := 54) (by decide)
        refine va_iald hx hb hK.1 hP 0 1 rfl rfl (mm_in rv139 (by decide)) dX12_copyRow_23 ?_
        refine lv_topi (fun v140 ev140 => ?_)
        have rv140 : mm_rg v140 0 99 := mm_eqv ev140 (rz3_0_129 _)
        refine va_iast hx hb hK.1 hP hD hS 0 1 rfl rfl (mm_in rv137 (by decide)) dX12_copyRow_24 ?_
        clear hP hD hS
        clear H locs
        obtain ⟨g141, eg141⟩ : ∃ z : Nat → Int32, z = upd z3_0_129 v137.toNatClampNeg v140 := ⟨_, rfl⟩
        rw [← eg141]
        intro H locs (hP : va_P G vwCl [(a_0, .inl (cy 1, 90, .inl g141))] H) (hD : va_D A [(a_0, .inl (cy 1, 90, .inl g141))]) hS
        have rg141 : mm_ar g141 0 99 := by rw [eg141]; exact mm_ar_upd (mm_ar_wk rz3_0_129 (by decide)) (mm_wk rv140 (by decide)) _
        obtain ⟨v142, ev142⟩ : ∃ y : Int32, y = x3_4_128 + 1 := ⟨_, rfl⟩
        refine lv_iinc (v := v142) (lv' := [(4, .int v142), (0, .ref a_0), (1, .int 18), (2, .int 3), (3, .int 0)]) hx hb dX12_copyRow_25 hl (k := 0) rfl (by rw [ev142]; rfl) (by decide) rfl ?_
        clear hl
        clear ls
        intro ls hl
        have rv142 : mm_rg v142 1 18 := mm_add ev142 q135 mm_k1 (by decide) (by decide)
        have tv142 := mm_addEc ev142 q135 mm_k1 (by decide) (k := 1) (by decide)
        refine lv_goto (tgt := 3) hx hb dX12_copyRow_28 (by decide) ?_
        exact ih3 v142 g141 (mm_wk rv142 (by decide)) rg141 (mm_crk_s w130 tv142 q135 eg141 ev140 (by have := tv137; omega) (by have := tv139; omega) (by decide)) (mm_mu hm3 tv142 (by decide) (rv142).2 (by decide)) H locs hP hD hS ls (lv_sub hl [0, 1, 2, 3, 4] rfl)
  exact L3_130 _ 0 f_0 (mm_wk mm_k0 (by decide)) h0 (mm_crk_0 _ _ _ _) (Nat.lt_succ_self _) H locs hP hD hS ls (lv_sub hl [0, 1, 2, 3, 4] rfl)

set_option maxHeartbeats 4000000 in
set_option maxRecDepth 100000 in
theorem M372_X12_copyRow (l : Launch) (G : va_G) (cy : Nat → ClassId) (sz : Nat) (a_0 : Nat) (f_0 : Nat → Int32) (h0 : mm_ar f_0 0 7)  : mm_CV l yX12_copyRow (mm_ws yX12_copyRow cX12_copyRow 5 (none)) ({ frames := 0, cells := 0, slots := 0, locals := 0 } : Room) G cy sz [(a_0, .inl (cy 1, 15, .inl f_0))] [.ref a_0, .int 3, .int 3, .int 0] (fun u : (Nat → Int32) => [(a_0, .inl (cy 1, 15, .inl u))]) (fun u : (Nat → Int32) => mm_ar u 0 7 ∧ mm_crw f_0 u 3 3 0) 0 0 := by
  refine mm_begin (lv := [(0, .ref a_0), (1, .int 3), (2, .int 3), (3, .int 0)]) (by decide) (Nat.le_of_ble_eq_true rfl) rfl ?_
  intro p e s m below meth c A ls R args Q H locs hRe hQ hAe hx hb hr hlocks hml hown hnm hts hsz hA hS hP hK hD hZ hl
  have hRf : R.frames = 0 := by rw [hRe]
  have hRl : R.locals = 0 := by rw [hRe]
  have hRc : R.cells = 0 := by rw [hRe]
  have hRs : R.slots = 0 := by rw [hRe]
  refine lv_iconst (v := 0) hx hb dX12_copyRow_0 (by decide) ?_
  refine lv_istore (lv' := [(4, .int 0), (0, .ref a_0), (1, .int 3), (2, .int 3), (3, .int 0)]) hx hb dX12_copyRow_1 hl (by decide) rfl ?_
  clear hl
  clear ls
  intro ls hl
  have L3_48 : ∀ (n : Nat) (x3_4_46 : Int32) (z3_0_47 : Nat → Int32), mm_rg x3_4_46 0 3 → mm_ar z3_0_47 0 7 → mm_crk f_0 z3_0_47 3 3 0 x3_4_46 → (3 - x3_4_46.toInt).toNat < n → ∀ (H : Heap) (locs : List Loc), va_P G vwCl [(a_0, .inl (cy 1, 15, .inl z3_0_47))] H → va_D A [(a_0, .inl (cy 1, 15, .inl z3_0_47))] → va_S A s.heap H locs → ∀ (ls : Array Slot), lv_has ls 5 [(4, .int x3_4_46), (0, .ref a_0), (1, .int 3), (2, .int 3), (3, .int 0)] → W p l e R s m args below meth c H locs 0 0 Q (F0 m 3 ls []) := by
    intro n
    induction n with
    | zero => intro x3_4_46 z3_0_47 rx3_4_46 rz3_0_47 w48 hm; exact absurd hm (Nat.not_lt_zero _)
    | succ n ih3 =>
      intro x3_4_46 z3_0_47 rx3_4_46 rz3_0_47 w48 hm3 H locs hP hD hS ls hl
      refine lv_iload hx hb dX12_copyRow_3 (lv_at hl 0 rfl) ?_
      refine lv_iload_n hx hb dX12_copyRow_5 rfl (lv_at hl 2 rfl) ?_
      refine lv_icmp_ge (tgt := 31) hx hb dX12_copyRow_6 (by decide) (fun c50 => ?_) (fun c50 => ?_)
      · have q51 := mm_leR (mm_le c50) mm_k3 rx3_4_46
        have w52 : mm_crw f_0 z3_0_47 3 3 0 := (mm_crw_of w48 q51 (by decide))
        subst hAe
        rw [hQ]
        exact W.vret hx hb hr (fun t ht hW => ⟨⟨z3_0_47, rfl, ⟨rz3_0_47, w52⟩, by rw [ht]; exact hP, hK.warm hW, hD⟩, hS.F ht⟩) hS.2.2 dX12_copyRow_31
      · have q53 := mm_ltL (h := 2) (mm_nle c50) rx3_4_46 mm_k3 (by decide)
        refine lv_aload_n hx hb dX12_copyRow_9 rfl (lv_at hl 1 rfl) ?_
        refine lv_iload_n hx hb dX12_copyRow_10 rfl (lv_at hl 2 rfl) ?_
        refine lv_iload_n hx hb dX12_copyRow_11 rfl (lv_at hl 4 rfl) ?_
        refine lv_imul hx hb dX12_copyRow_12 ?_
        refine lv_topi (fun v54 ev54 => ?_)
        obtain rfl : v54 = 0 := ev54.trans (by decide)
        refine lv_iload hx hb dX12_copyRow_13 (lv_at hl 0 rfl) ?_
        refine lv_iadd hx hb dX12_copyRow_15 ?_
        refine lv_topi (fun v55 ev55 => ?_)
        have rv55 : mm_rg v55 0 2 := mm_add ev55 mm_k0 q53 (by decide) (by decide)
        have tv55 := mm_addEd ev55 mm_k0 q53 (by decide) (k := 0) (by decide)
        refine lv_aload_n hx hb dX12_copyRow_16 rfl (lv_at hl 1 rfl) ?_
        refine lv_iload_n hx hb dX12_copyRow_17 rfl (lv_at hl 2 rfl) ?_
        refine lv_iload_n hx hb dX12_copyRow_18 rfl (lv_at hl 3 rfl) ?_
        refine lv_imul hx hb dX12_copyRow_19 ?_
        refine lv_topi (fun v56 ev56 => ?_)
        obtain rfl : v56 = 9 := ev56.trans (by decide)
        refine lv_iload hx hb dX12_copyRow_20 (lv_at hl 0 rfl) ?_
        refine lv_iadd hx hb dX12_copyRow_22 ?_
        refine lv_topi (fun v57 ev57 => ?_)
        have rv57 : mm_rg v57 9 11 := mm_add ev57 mm_k9 q53 (by decide) (by decide)
        have tv57 := mm_addEd ev57 mm_k9 q53 (by decide) (k := 9) (by decide)
        refine va_iald hx hb hK.1 hP 0 1 rfl rfl (mm_in rv57 (by decide)) dX12_copyRow_23 ?_
        refine lv_topi (fun v58 ev58 => ?_)
        have rv58 : mm_rg v58 0 7 := mm_eqv ev58 (rz3_0_47 _)
        refine va_iast hx hb hK.1 hP hD hS 0 1 rfl rfl (mm_in rv55 (by decide)) dX12_copyRow_24 ?_
        clear hP hD hS
        clear H locs
        obtain ⟨g59, eg59⟩ : ∃ z : Nat → Int32, z = upd z3_0_47 v55.toNatClampNeg v58 := ⟨_, rfl⟩
        rw [← eg59]
        intro H locs (hP : va_P G vwCl [(a_0, .inl (cy 1, 15, .inl g59))] H) (hD : va_D A [(a_0, .inl (cy 1, 15, .inl g59))]) hS
        have rg59 : mm_ar g59 0 7 := by rw [eg59]; exact mm_ar_upd (mm_ar_wk rz3_0_47 (by decide)) (mm_wk rv58 (by decide)) _
        obtain ⟨v60, ev60⟩ : ∃ y : Int32, y = x3_4_46 + 1 := ⟨_, rfl⟩
        refine lv_iinc (v := v60) (lv' := [(4, .int v60), (0, .ref a_0), (1, .int 3), (2, .int 3), (3, .int 0)]) hx hb dX12_copyRow_25 hl (k := 0) rfl (by rw [ev60]; rfl) (by decide) rfl ?_
        clear hl
        clear ls
        intro ls hl
        have rv60 : mm_rg v60 1 3 := mm_add ev60 q53 mm_k1 (by decide) (by decide)
        have tv60 := mm_addEc ev60 q53 mm_k1 (by decide) (k := 1) (by decide)
        refine lv_goto (tgt := 3) hx hb dX12_copyRow_28 (by decide) ?_
        exact ih3 v60 g59 (mm_wk rv60 (by decide)) rg59 (mm_crk_s w48 tv60 q53 eg59 ev58 (by have := tv55; omega) (by have := tv57; omega) (by decide)) (mm_mu hm3 tv60 (by decide) (rv60).2 (by decide)) H locs hP hD hS ls (lv_sub hl [0, 1, 2, 3, 4] rfl)
  exact L3_48 _ 0 f_0 (mm_wk mm_k0 (by decide)) h0 (mm_crk_0 _ _ _ _) (Nat.lt_succ_self _) H locs hP hD hS ls (lv_sub hl [0, 1, 2, 3, 4] rfl)

set_option maxHeartbeats 4000000 in
set_option maxRecDepth 100000 in
theorem M373_X12_copyRow (l : Launch) (G : va_G) (cy : Nat → ClassId) (sz : Nat) (a_0 : Nat) (f_0 : Nat → Int32) (h0 : mm_ar f_0 0 9)  : mm_CV l yX12_copyRow (mm_ws yX12_copyRow cX12_copyRow 5 (none)) ({ frames := 0, cells := 0, slots := 0, locals := 0 } : Room) G cy sz [(a_0, .inl (cy 1, 1050, .inl f_0))] [.ref a_0, .int 210, .int 3, .int 0] (fun u : (Nat → Int32) => [(a_0, .inl (cy 1, 1050, .inl u))]) (fun u : (Nat → Int32) => mm_ar u 0 9 ∧ mm_crw f_0 u 210 3 0) 0 0 := by
  refine mm_begin (lv := [(0, .ref a_0), (1, .int 210), (2, .int 3), (3, .int 0)]) (by decide) (Nat.le_of_ble_eq_true rfl) rfl ?_
  intro p e s m below meth c A ls R args Q H locs hRe hQ hAe hx hb hr hlocks hml hown hnm hts hsz hA hS hP hK hD hZ hl
  have hRf : R.frames = 0 := by rw [hRe]
  have hRl : R.locals = 0 := by rw [hRe]
  have hRc : R.cells = 0 := by rw [hRe]
  have hRs : R.slots = 0 := by rw [hRe]
  refine lv_iconst (v := 0) hx hb dX12_copyRow_0 (by decide) ?_
  refine lv_istore (lv' := [(4, .int 0), (0, .ref a_0), (1, .int 210), (2, .int 3), (3, .int 0)]) hx hb dX12_copyRow_1 hl (by decide) rfl ?_
  clear hl
  clear ls
  intro ls hl
  have L3_148 : ∀ (n : Nat) (x3_4_146 : Int32) (z3_0_147 : Nat → Int32), mm_rg x3_4_146 0 210 → mm_ar z3_0_147 0 9 → mm_crk f_0 z3_0_147 210 3 0 x3_4_146 → (210 - x3_4_146.toInt).toNat < n → ∀ (H : Heap) (locs : List Loc), va_P G vwCl [(a_0, .inl (cy 1, 1050, .inl z3_0_147))] H → va_D A [(a_0, .inl (cy 1, 1050, .inl z3_0_147))] → va_S A s.heap H locs → ∀ (ls : Array Slot), lv_has ls 5 [(4, .int x3_4_146), (0, .ref a_0), (1, .int 210), (2, .int 3), (3, .int 0)] → W p l e R s m args below meth c H locs 0 0 Q (F0 m 3 ls []) := by
    intro n
    induction n with
    | zero => intro x3_4_146 z3_0_147 rx3_4_146 rz3_0_147 w148 hm; exact absurd hm (Nat.not_lt_zero _)
    | succ n ih3 =>
      intro x3_4_146 z3_0_147 rx3_4_146 rz3_0_147 w148 hm3 H locs hP hD hS ls hl
      refine lv_iload hx hb dX12_copyRow_3 (lv_at hl 0 rfl) ?_
      refine lv_iload_n hx hb dX12_copyRow_5 rfl (lv_at hl 2 rfl) ?_
      refine lv_icmp_ge (tgt := 31) hx hb dX12_copyRow_6 (by decide) (fun c150 => ?_) (fun c150 => ?_)
      · have q151 := mm_leR (mm_le c150) mm_k210 rx3_4_146
        have w152 : mm_crw f_0 z3_0_147 210 3 0 := (mm_crw_of w148 q151 (by decide))
        subst hAe
        rw [hQ]
        exact W.vret hx hb hr (fun t ht hW => ⟨⟨z3_0_147, rfl, ⟨rz3_0_147, w152⟩, by rw [ht]; exact hP, hK.warm hW, hD⟩, hS.F ht⟩) hS.2.2 dX12_copyRow_31
      · have q153 := mm_ltL (h := 209) (mm_nle c150) rx3_4_146 mm_k210 (by decide)
        refine lv_aload_n hx hb dX12_copyRow_9 rfl (lv_at hl 1 rfl) ?_
        refine lv_iload_n hx hb dX12_copyRow_10 rfl (lv_at hl 2 rfl) ?_
        refine lv_iload_n hx hb dX12_copyRow_11 rfl (lv_at hl 4 rfl) ?_
        refine lv_imul hx hb dX12_copyRow_12 ?_
        refine lv_topi (fun v154 ev154 => ?_)
        obtain rfl : v154 = 0 := ev154.trans (by decide)
        refine lv_iload hx hb dX12_copyRow_13 (lv_at hl 0 rfl) ?_
        refine lv_iadd hx hb dX12_copyRow_15 ?_
        refine lv_topi (fun v155 ev155 => ?_)
        have rv155 : mm_rg v155 0 209 := mm_add ev155 mm_k0 q153 (by decide) (by decide)
        have tv155 := mm_addEd ev155 mm_k0 q153 (by decide) (k := 0) (by decide)
        refine lv_aload_n hx hb dX12_copyRow_16 rfl (lv_at hl 1 rfl) ?_
        refine lv_iload_n hx hb dX12_copyRow_17 rfl (lv_at hl 2 rfl) ?_
        refine lv_iload_n hx hb dX12_copyRow_18 rfl (lv_at hl 3 rfl) ?_
        refine lv_imul hx hb dX12_copyRow_19 ?_
        refine lv_topi (fun v156 ev156 => ?_)
        obtain rfl : v156 = 630 := ev156.trans (by decide)
        refine lv_iload hx hb dX12_copyRow_20 (lv_at hl 0 rfl) ?_
        refine lv_iadd hx hb dX12_copyRow_22 ?_
        refine lv_topi (fun v157 ev157 => ?_)
        have rv157 : mm_rg v157 630 839 := mm_add ev157 mm_k630 q153 (by decide) (by decide)
        have tv157 := mm_addEd ev157 mm_k630 q153 (by decide) (k := 630) (by decide)
        refine va_iald hx hb hK.1 hP 0 1 rfl rfl (mm_in rv157 (by decide)) dX12_copyRow_23 ?_
        refine lv_topi (fun v158 ev158 => ?_)
        have rv158 : mm_rg v158 0 9 := mm_eqv ev158 (rz3_0_147 _)
        refine va_iast hx hb hK.1 hP hD hS 0 1 rfl rfl (mm_in rv155 (by decide)) dX12_copyRow_24 ?_
        clear hP hD hS
        clear H locs
        obtain ⟨g159, eg159⟩ : ∃ z : Nat → Int32, z = upd z3_0_147 v155.toNatClampNeg v158 := ⟨_, rfl⟩
        rw [← eg159]
        intro H locs (hP : va_P G vwCl [(a_0, .inl (cy 1, 1050, .inl g159))] H) (hD : va_D A [(a_0, .inl (cy 1, 1050, .inl g159))]) hS
        have rg159 : mm_ar g159 0 9 := by rw [eg159]; exact mm_ar_upd (mm_ar_wk rz3_0_147 (by decide)) (mm_wk rv158 (by decide)) _
        obtain ⟨v160, ev160⟩ : ∃ y : Int32, y = x3_4_146 + 1 := ⟨_, rfl⟩
        refine lv_iinc (v := v160) (lv' := [(4, .int v160), (0, .ref a_0), (1, .int 210), (2, .int 3), (3, .int 0)]) hx hb dX12_copyRow_25 hl (k := 0) rfl (by rw [ev160]; rfl) (by decide) rfl ?_
        clear hl
        clear ls
        intro ls hl
        have rv160 : mm_rg v160 1 210 := mm_add ev160 q153 mm_k1 (by decide) (by decide)
        have tv160 := mm_addEc ev160 q153 mm_k1 (by decide) (k := 1) (by decide)
        refine lv_goto (tgt := 3) hx hb dX12_copyRow_28 (by decide) ?_
        exact ih3 v160 g159 (mm_wk rv160 (by decide)) rg159 (mm_crk_s w148 tv160 q153 eg159 ev158 (by have := tv155; omega) (by have := tv157; omega) (by decide)) (mm_mu hm3 tv160 (by decide) (rv160).2 (by decide)) H locs hP hD hS ls (lv_sub hl [0, 1, 2, 3, 4] rfl)
  exact L3_148 _ 0 f_0 (mm_wk mm_k0 (by decide)) h0 (mm_crk_0 _ _ _ _) (Nat.lt_succ_self _) H locs hP hD hS ls (lv_sub hl [0, 1, 2, 3, 4] rfl)

set_option maxHeartbeats 4000000 in
set_option maxRecDepth 100000 in
theorem M374_X12_copyRow (l : Launch) (G : va_G) (cy : Nat → ClassId) (sz : Nat) (a_0 : Nat) (f_0 : Nat → Int32) (h0 : mm_ar f_0 0 8)  : mm_CV l yX12_copyRow (mm_ws yX12_copyRow cX12_copyRow 5 (none)) ({ frames := 0, cells := 0, slots := 0, locals := 0 } : Room) G cy sz [(a_0, .inl (cy 1, 30, .inl f_0))] [.ref a_0, .int 6, .int 3, .int 0] (fun u : (Nat → Int32) => [(a_0, .inl (cy 1, 30, .inl u))]) (fun u : (Nat → Int32) => mm_ar u 0 8 ∧ mm_crw f_0 u 6 3 0) 0 0 := by
  refine mm_begin (lv := [(0, .ref a_0), (1, .int 6), (2, .int 3), (3, .int 0)]) (by decide) (Nat.le_of_ble_eq_true rfl) rfl ?_
  intro p e s m below meth c A ls R args Q H locs hRe hQ hAe hx hb hr hlocks hml hown hnm hts hsz hA hS hP hK hD hZ hl
  have hRf : R.frames = 0 := by rw [hRe]
  have hRl : R.locals = 0 := by rw [hRe]
  have hRc : R.cells = 0 := by rw [hRe]
  have hRs : R.slots = 0 := by rw [hRe]
  refine lv_iconst (v := 0) hx hb dX12_copyRow_0 (by decide) ?_
  refine lv_istore (lv' := [(4, .int 0), (0, .ref a_0), (1, .int 6), (2, .int 3), (3, .int 0)]) hx hb dX12_copyRow_1 hl (by decide) rfl ?_
  clear hl
  clear ls
  intro ls hl
  have L3_75 : ∀ (n : Nat) (x3_4_73 : Int32) (z3_0_74 : Nat → Int32), mm_rg x3_4_73 0 6 → mm_ar z3_0_74 0 8 → mm_crk f_0 z3_0_74 6 3 0 x3_4_73 → (6 - x3_4_73.toInt).toNat < n → ∀ (H : Heap) (locs : List Loc), va_P G vwCl [(a_0, .inl (cy 1, 30, .inl z3_0_74))] H → va_D A [(a_0, .inl (cy 1, 30, .inl z3_0_74))] → va_S A s.heap H locs → ∀ (ls : Array Slot), lv_has ls 5 [(4, .int x3_4_73), (0, .ref a_0), (1, .int 6), (2, .int 3), (3, .int 0)] → W p l e R s m args below meth c H locs 0 0 Q (F0 m 3 ls []) := by
    intro n
    induction n with
    | zero => intro x3_4_73 z3_0_74 rx3_4_73 rz3_0_74 w75 hm; exact absurd hm (Nat.not_lt_zero _)
    | succ n ih3 =>
      intro x3_4_73 z3_0_74 rx3_4_73 rz3_0_74 w75 hm3 H locs hP hD hS ls hl
      refine lv_iload hx hb dX12_copyRow_3 (lv_at hl 0 rfl) ?_
      refine lv_iload_n hx hb dX12_copyRow_5 rfl (lv_at hl 2 rfl) ?_
      refine lv_icmp_ge (tgt := 31) hx hb dX12_copyRow_6 (by decide) (fun c77 => ?_) (fun c77 => ?_)
      · have q78 := mm_leR (mm_le c77) mm_k6 rx3_4_73
        have w79 : mm_crw f_0 z3_0_74 6 3 0 := (mm_crw_of w75 q78 (by decide))
        subst hAe
        rw [hQ]
        exact W.vret hx hb hr (fun t ht hW => ⟨⟨z3_0_74, rfl, ⟨rz3_0_74, w79⟩, by rw [ht]; exact hP, hK.warm hW, hD⟩, hS.F ht⟩) hS.2.2 dX12_copyRow_31
      · have q80 := mm_ltL (h := 5) (mm_nle c77) rx3_4_73 mm_k6 (by decide)
        refine lv_aload_n hx hb dX12_copyRow_9 rfl (lv_at hl 1 rfl) ?_
        refine lv_iload_n hx hb dX12_copyRow_10 rfl (lv_at hl 2 rfl) ?_
        refine lv_iload_n hx hb dX12_copyRow_11 rfl (lv_at hl 4 rfl) ?_
        refine lv_imul hx hb dX12_copyRow_12 ?_
        refine lv_topi (fun v81 ev81 => ?_)
        obtain rfl : v81 = 0 := ev81.trans (by decide)
        refine lv_iload hx hb dX12_copyRow_13 (lv_at hl 0 rfl) ?_
        refine lv_iadd hx hb dX12_copyRow_15 ?_
        refine lv_topi (fun v82 ev82 => ?_)
        have rv82 : mm_rg v82 0 5 := mm_add ev82 mm_k0 q80 (by decide) (by decide)
        have tv82 := mm_addEd ev82 mm_k0 q80 (by decide) (k := 0) (by decide)
        refine lv_aload_n hx hb dX12_copyRow_16 rfl (lv_at hl 1 rfl) ?_
        refine lv_iload_n hx hb dX12_copyRow_17 rfl (lv_at hl 2 rfl) ?_
        refine lv_iload_n hx hb dX12_copyRow_18 rfl (lv_at hl 3 rfl) ?_
        refine lv_imul hx hb dX12_copyRow_19 ?_
        refine lv_topi (fun v83 ev83 => ?_)
        obtain rfl : v83 = 18 := ev83.trans (by decide)
        refine lv_iload hx hb dX12_copyRow_20 (lv_at hl 0 rfl) ?_
        refine lv_iadd hx hb dX12_copyRow_22 ?_
        refine lv_topi (fun v84 ev84 => ?_)
        have rv84 : mm_rg v84 18 23 := mm_add ev84 mm_k18 q80 (by decide) (by decide)
        have tv84 := mm_addEd ev84 mm_k18 q80 (by decide) (k := 18) (by decide)
        refine va_iald hx hb hK.1 hP 0 1 rfl rfl (mm_in rv84 (by decide)) dX12_copyRow_23 ?_
        refine lv_topi (fun v85 ev85 => ?_)
        have rv85 : mm_rg v85 0 8 := mm_eqv ev85 (rz3_0_74 _)
        refine va_iast hx hb hK.1 hP hD hS 0 1 rfl rfl (mm_in rv82 (by decide)) dX12_copyRow_24 ?_
        clear hP hD hS
        clear H locs
        obtain ⟨g86, eg86⟩ : ∃ z : Nat → Int32, z = upd z3_0_74 v82.toNatClampNeg v85 := ⟨_, rfl⟩
        rw [← eg86]
        intro H locs (hP : va_P G vwCl [(a_0, .inl (cy 1, 30, .inl g86))] H) (hD : va_D A [(a_0, .inl (cy 1, 30, .inl g86))]) hS
        have rg86 : mm_ar g86 0 8 := by rw [eg86]; exact mm_ar_upd (mm_ar_wk rz3_0_74 (by decide)) (mm_wk rv85 (by decide)) _
        obtain ⟨v87, ev87⟩ : ∃ y : Int32, y = x3_4_73 + 1 := ⟨_, rfl⟩
        refine lv_iinc (v := v87) (lv' := [(4, .int v87), (0, .ref a_0), (1, .int 6), (2, .int 3), (3, .int 0)]) hx hb dX12_copyRow_25 hl (k := 0) rfl (by rw [ev87]; rfl) (by decide) rfl ?_
        clear hl
        clear ls
        intro ls hl
        have rv87 : mm_rg v87 1 6 := mm_add ev87 q80 mm_k1 (by decide) (by decide)
        have tv87 := mm_addEc ev87 q80 mm_k1 (by decide) (k := 1) (by decide)
        refine lv_goto (tgt := 3) hx hb dX12_copyRow_28 (by decide) ?_
        exact ih3 v87 g86 (mm_wk rv87 (by decide)) rg86 (mm_crk_s w75 tv87 q80 eg86 ev85 (by have := tv82; omega) (by have := tv84; omega) (by decide)) (mm_mu hm3 tv87 (by decide) (rv87).2 (by decide)) H locs hP hD hS ls (lv_sub hl [0, 1, 2, 3, 4] rfl)
  exact L3_75 _ 0 f_0 (mm_wk mm_k0 (by decide)) h0 (mm_crk_0 _ _ _ _) (Nat.lt_succ_self _) H locs hP hD hS ls (lv_sub hl [0, 1, 2, 3, 4] rfl)

set_option maxHeartbeats 4000000 in
set_option maxRecDepth 100000 in
theorem M375_X12_copyRow (l : Launch) (G : va_G) (cy : Nat → ClassId) (sz : Nat) (a_0 : Nat) (f_0 : Nat → Int32) (h0 : mm_ar f_0 0 9)  : mm_CV l yX12_copyRow (mm_ws yX12_copyRow cX12_copyRow 5 (none)) ({ frames := 0, cells := 0, slots := 0, locals := 0 } : Room) G cy sz [(a_0, .inl (cy 1, 240, .inl f_0))] [.ref a_0, .int 48, .int 3, .int 0] (fun u : (Nat → Int32) => [(a_0, .inl (cy 1, 240, .inl u))]) (fun u : (Nat → Int32) => mm_ar u 0 9 ∧ mm_crw f_0 u 48 3 0) 0 0 := by
  refine mm_begin (lv := [(0, .ref a_0), (1, .int 48), (2, .int 3), (3, .int 0)]) (by decide) (Nat.le_of_ble_eq_true rfl) rfl ?_
  intro p e s m below meth c A ls R args Q H locs hRe hQ hAe hx hb hr hlocks hml hown hnm hts hsz hA hS hP hK hD hZ hl
  have hRf : R.frames = 0 := by rw [hRe]
  have hRl : R.locals = 0 := by rw [hRe]
  have hRc : R.cells = 0 := by rw [hRe]
  have hRs : R.slots = 0 := by rw [hRe]
  refine lv_iconst (v := 0) hx hb dX12_copyRow_0 (by decide) ?_
  refine lv_istore (lv' := [(4, .int 0), (0, .ref a_0), (1, .int 48), (2, .int 3), (3, .int 0)]) hx hb dX12_copyRow_1 hl (by decide) rfl ?_
  clear hl
  clear ls
  intro ls hl
  have L3_130 : ∀ (n : Nat) (x3_4_128 : Int32) (z3_0_129 : Nat → Int32), mm_rg x3_4_128 0 48 → mm_ar z3_0_129 0 9 → mm_crk f_0 z3_0_129 48 3 0 x3_4_128 → (48 - x3_4_128.toInt).toNat < n → ∀ (H : Heap) (locs : List Loc), va_P G vwCl [(a_0, .inl (cy 1, 240, .inl z3_0_129))] H → va_D A [(a_0, .inl (cy 1, 240, .inl z3_0_129))] → va_S A s.heap H locs → ∀ (ls : Array Slot), lv_has ls 5 [(4, .int x3_4_128), (0, .ref a_0), (1, .int 48), (2, .int 3), (3, .int 0)] → W p l e R s m args below meth c H locs 0 0 Q (F0 m 3 ls []) := by
    intro n
    induction n with
    | zero => intro x3_4_128 z3_0_129 rx3_4_128 rz3_0_129 w130 hm; exact absurd hm (Nat.not_lt_zero _)
    | succ n ih3 =>
      intro x3_4_128 z3_0_129 rx3_4_128 rz3_0_129 w130 hm3 H locs hP hD hS ls hl
      refine lv_iload hx hb dX12_copyRow_3 (lv_at hl 0 rfl) ?_
      refine lv_iload_n hx hb dX12_copyRow_5 rfl (lv_at hl 2 rfl) ?_
      refine lv_icmp_ge (tgt := 31) hx hb dX12_copyRow_6 (by decide) (fun c132 => ?_) (fun c132 => ?_)
      · have q133 := mm_leR (mm_le c132) mm_k48 rx3_4_128
        have w134 : mm_crw f_0 z3_0_129 48 3 0 := (mm_crw_of w130 q133 (by decide))
        subst hAe
        rw [hQ]
        exact W.vret hx hb hr (fun t ht hW => ⟨⟨z3_0_129, rfl, ⟨rz3_0_129, w134⟩, by rw [ht]; exact hP, hK.warm hW, hD⟩, hS.F ht⟩) hS.2.2 dX12_copyRow_31
      · have q135 := mm_ltL (h := 47) (mm_nle c132) rx3_4_128 mm_k48 (by decide)
        refine lv_aload_n hx hb dX12_copyRow_9 rfl (lv_at hl 1 rfl) ?_
        refine lv_iload_n hx hb dX12_copyRow_10 rfl (lv_at hl 2 rfl) ?_
        refine lv_iload_n hx hb dX12_copyRow_11 rfl (lv_at hl 4 rfl) ?_
        refine lv_imul hx hb dX12_copyRow_12 ?_
        refine lv_topi (fun v136 ev136 => ?_)
        obtain rfl : v136 = 0 := ev136.trans (by decide)
        refine lv_iload hx hb dX12_copyRow_13 (lv_at hl 0 rfl) ?_
        refine lv_iadd hx hb dX12_copyRow_15 ?_
        refine lv_topi (fun v137 ev137 => ?_)
        have rv137 : mm_rg v137 0 47 := mm_add ev137 mm_k0 q135 (by decide) (by decide)
        have tv137 := mm_addEd ev137 mm_k0 q135 (by decide) (k := 0) (by decide)
        refine lv_aload_n hx hb dX12_copyRow_16 rfl (lv_at hl 1 rfl) ?_
        refine lv_iload_n hx hb dX12_copyRow_17 rfl (lv_at hl 2 rfl) ?_
        refine lv_iload_n hx hb dX12_copyRow_18 rfl (lv_at hl 3 rfl) ?_
        refine lv_imul hx hb dX12_copyRow_19 ?_
        refine lv_topi (fun v138 ev138 => ?_)
        obtain rfl : v138 = 144 := ev138.trans (by decide)
        refine lv_iload hx hb dX12_copyRow_20 (lv_at hl 0 rfl) ?_
        refine lv_iadd hx hb dX12_copyRow_22 ?_
        refine lv_topi (fun v139 ev139 => ?_)
        have rv139 : mm_rg v139 144 191 := mm_add ev139 mm_k144 q135 (by decide) (by decide)
        have tv139 := mm_addEd ev139 mm_k144 q135 (by decide) (k := 144) (by decide)
        refine va_iald hx hb hK.1 hP 0 1 rfl rfl (mm_in rv139 (by decide)) dX12_copyRow_23 ?_
        refine lv_topi (fun v140 ev140 => ?_)
        have rv140 : mm_rg v140 0 9 := mm_eqv ev140 (rz3_0_129 _)
        refine va_iast hx hb hK.1 hP hD hS 0 1 rfl rfl (mm_in rv137 (by decide)) dX12_copyRow_24 ?_
        clear hP hD hS
        clear H locs
        obtain ⟨g141, eg141⟩ : ∃ z : Nat → Int32, z = upd z3_0_129 v137.toNatClampNeg v140 := ⟨_, rfl⟩
        rw [← eg141]
        intro H locs (hP : va_P G vwCl [(a_0, .inl (cy 1, 240, .inl g141))] H) (hD : va_D A [(a_0, .inl (cy 1, 240, .inl g141))]) hS
        have rg141 : mm_ar g141 0 9 := by rw [eg141]; exact mm_ar_upd (mm_ar_wk rz3_0_129 (by decide)) (mm_wk rv140 (by decide)) _
        obtain ⟨v142, ev142⟩ : ∃ y : Int32, y = x3_4_128 + 1 := ⟨_, rfl⟩
        refine lv_iinc (v := v142) (lv' := [(4, .int v142), (0, .ref a_0), (1, .int 48), (2, .int 3), (3, .int 0)]) hx hb dX12_copyRow_25 hl (k := 0) rfl (by rw [ev142]; rfl) (by decide) rfl ?_
        clear hl
        clear ls
        intro ls hl
        have rv142 : mm_rg v142 1 48 := mm_add ev142 q135 mm_k1 (by decide) (by decide)
        have tv142 := mm_addEc ev142 q135 mm_k1 (by decide) (k := 1) (by decide)
        refine lv_goto (tgt := 3) hx hb dX12_copyRow_28 (by decide) ?_
        exact ih3 v142 g141 (mm_wk rv142 (by decide)) rg141 (mm_crk_s w130 tv142 q135 eg141 ev140 (by have := tv137; omega) (by have := tv139; omega) (by decide)) (mm_mu hm3 tv142 (by decide) (rv142).2 (by decide)) H locs hP hD hS ls (lv_sub hl [0, 1, 2, 3, 4] rfl)
  exact L3_130 _ 0 f_0 (mm_wk mm_k0 (by decide)) h0 (mm_crk_0 _ _ _ _) (Nat.lt_succ_self _) H locs hP hD hS ls (lv_sub hl [0, 1, 2, 3, 4] rfl)

set_option maxHeartbeats 4000000 in
set_option maxRecDepth 100000 in
theorem M376_X12_copyRow (l : Launch) (G : va_G) (cy : Nat → ClassId) (sz : Nat) (a_0 : Nat) (f_0 : Nat → Int32) (h0 : mm_ar f_0 (-1) 99)  : mm_CV l yX12_copyRow (mm_ws yX12_copyRow cX12_copyRow 5 (none)) ({ frames := 0, cells := 0, slots := 0, locals := 0 } : Room) G cy sz [(a_0, .inl (cy 1, 450, .inl f_0))] [.ref a_0, .int 90, .int 3, .int 0] (fun u : (Nat → Int32) => [(a_0, .inl (cy 1, 450, .inl u))]) (fun u : (Nat → Int32) => mm_ar u (-1) 99 ∧ mm_crw f_0 u 90 3 0) 0 0 := by
  refine mm_begin (lv := [(0, .ref a_0), (1, .int 90), (2, .int 3), (3, .int 0)]) (by decide) (Nat.le_of_ble_eq_true rfl) rfl ?_
  intro p e s m below meth c A ls R args Q H locs hRe hQ hAe hx hb hr hlocks hml hown hnm hts hsz hA hS hP hK hD hZ hl
  have hRf : R.frames = 0 := by rw [hRe]
  have hRl : R.locals = 0 := by rw [hRe]
  have hRc : R.cells = 0 := by rw [hRe]
  have hRs : R.slots = 0 := by rw [hRe]
  refine lv_iconst (v := 0) hx hb dX12_copyRow_0 (by decide) ?_
  refine lv_istore (lv' := [(4, .int 0), (0, .ref a_0), (1, .int 90), (2, .int 3), (3, .int 0)]) hx hb dX12_copyRow_1 hl (by decide) rfl ?_
  clear hl
  clear ls
  intro ls hl
  have L3_139 : ∀ (n : Nat) (x3_4_137 : Int32) (z3_0_138 : Nat → Int32), mm_rg x3_4_137 0 90 → mm_ar z3_0_138 (-1) 99 → mm_crk f_0 z3_0_138 90 3 0 x3_4_137 → (90 - x3_4_137.toInt).toNat < n → ∀ (H : Heap) (locs : List Loc), va_P G vwCl [(a_0, .inl (cy 1, 450, .inl z3_0_138))] H → va_D A [(a_0, .inl (cy 1, 450, .inl z3_0_138))] → va_S A s.heap H locs → ∀ (ls : Array Slot), lv_has ls 5 [(4, .int x3_4_137), (0, .ref a_0), (1, .int 90), (2, .int 3), (3, .int 0)] → W p l e R s m args below meth c H locs 0 0 Q (F0 m 3 ls []) := by
    intro n
    induction n with
    | zero => intro x3_4_137 z3_0_138 rx3_4_137 rz3_0_138 w139 hm; exact absurd hm (Nat.not_lt_zero _)
    | succ n ih3 =>
      intro x3_4_137 z3_0_138 rx3_4_137 rz3_0_138 w139 hm3 H locs hP hD hS ls hl
      refine lv_iload hx hb dX12_copyRow_3 (lv_at hl 0 rfl) ?_
      refine lv_iload_n hx hb dX12_copyRow_5 rfl (lv_at hl 2 rfl) ?_
      refine lv_icmp_ge (tgt := 31) hx hb dX12_copyRow_6 (by decide) (fun c141 => ?_) (fun c141 => ?_)
      · have q142 := mm_leR (mm_le c141) mm_k90 rx3_4_137
        have w143 : mm_crw f_0 z3_0_138 90 3 0 := (mm_crw_of w139 q142 (by decide))
        subst hAe
        rw [hQ]
        exact W.vret hx hb hr (fun t ht hW => ⟨⟨z3_0_138, rfl, ⟨rz3_0_138, w143⟩, by rw [ht]; exact hP, hK.warm hW, hD⟩, hS.F ht⟩) hS.2.2 dX12_copyRow_31
      · have q144 := mm_ltL (h := 89) (mm_nle c141) rx3_4_137 mm_k90 (by decide)
        refine lv_aload_n hx hb dX12_copyRow_9 rfl (lv_at hl 1 rfl) ?_
        refine lv_iload_n hx hb dX12_copyRow_10 rfl (lv_at hl 2 rfl) ?_
        refine lv_iload_n hx hb dX12_copyRow_11 rfl (lv_at hl 4 rfl) ?_
        refine lv_imul hx hb dX12_copyRow_12 ?_
        refine lv_topi (fun v145 ev145 => ?_)
        obtain rfl : v145 = 0 := ev145.trans (by decide)
        refine lv_iload hx hb dX12_copyRow_13 (lv_at hl 0 rfl) ?_
        refine lv_iadd hx hb dX12_copyRow_15 ?_
        refine lv_topi (fun v146 ev146 => ?_)
        have rv146 : mm_rg v146 0 89 := mm_add ev146 mm_k0 q144 (by decide) (by decide)
        have tv146 := mm_addEd ev146 mm_k0 q144 (by decide) (k := 0) (by decide)
        refine lv_aload_n hx hb dX12_copyRow_16 rfl (lv_at hl 1 rfl) ?_
        refine lv_iload_n hx hb dX12_copyRow_17 rfl (lv_at hl 2 rfl) ?_
        refine lv_iload_n hx hb dX12_copyRow_18 rfl (lv_at hl 3 rfl) ?_
        refine lv_imul hx hb dX12_copyRow_19 ?_
        refine lv_topi (fun v147 ev147 => ?_)
        obtain rfl : v147 = 270 := ev147.trans (by decide)
        refine lv_iload hx hb dX12_copyRow_20 (lv_at hl 0 rfl) ?_
        refine lv_iadd hx hb dX12_copyRow_22 ?_
        refine lv_topi (fun v148 ev148 => ?_)
        have rv148 : mm_rg v148 270 359 := mm_add ev148 mm_k270 q144 (by decide) (by decide)
        have tv148 := mm_addEd ev148 mm_k270 q144 (by decide) (k := 270) (by decide)
        refine va_iald hx hb hK.1 hP 0 1 rfl rfl (mm_in rv148 (by decide)) dX12_copyRow_23 ?_
        refine lv_topi (fun v149 ev149 => ?_)
        have rv149 : mm_rg v149 (-1) 99 := mm_eqv ev149 (rz3_0_138 _)
        refine va_iast hx hb hK.1 hP hD hS 0 1 rfl rfl (mm_in rv146 (by decide)) dX12_copyRow_24 ?_
        clear hP hD hS
        clear H locs
        obtain ⟨g150, eg150⟩ : ∃ z : Nat → Int32, z = upd z3_0_138 v146.toNatClampNeg v149 := ⟨_, rfl⟩
        rw [← eg150]
        intro H locs (hP : va_P G vwCl [(a_0, .inl (cy 1, 450, .inl g150))] H) (hD : va_D A [(a_0, .inl (cy 1, 450, .inl g150))]) hS
        have rg150 : mm_ar g150 (-1) 99 := by rw [eg150]; exact mm_ar_upd (mm_ar_wk rz3_0_138 (by decide)) (mm_wk rv149 (by decide)) _
        obtain ⟨v151, ev151⟩ : ∃ y : Int32, y = x3_4_137 + 1 := ⟨_, rfl⟩
        refine lv_iinc (v := v151) (lv' := [(4, .int v151), (0, .ref a_0), (1, .int 90), (2, .int 3), (3, .int 0)]) hx hb dX12_copyRow_25 hl (k := 0) rfl (by rw [ev151]; rfl) (by decide) rfl ?_
        clear hl
        clear ls
        intro ls hl
        have rv151 : mm_rg v151 1 90 := mm_add ev151 q144 mm_k1 (by decide) (by decide)
        have tv151 := mm_addEc ev151 q144 mm_k1 (by decide) (k := 1) (by decide)
        refine lv_goto (tgt := 3) hx hb dX12_copyRow_28 (by decide) ?_
        exact ih3 v151 g150 (mm_wk rv151 (by decide)) rg150 (mm_crk_s w139 tv151 q144 eg150 ev149 (by have := tv146; omega) (by have := tv148; omega) (by decide)) (mm_mu hm3 tv151 (by decide) (rv151).2 (by decide)) H locs hP hD hS ls (lv_sub hl [0, 1, 2, 3, 4] rfl)
  exact L3_139 _ 0 f_0 (mm_wk mm_k0 (by decide)) h0 (mm_crk_0 _ _ _ _) (Nat.lt_succ_self _) H locs hP hD hS ls (lv_sub hl [0, 1, 2, 3, 4] rfl)

set_option maxHeartbeats 4000000 in
set_option maxRecDepth 100000 in
theorem M377_X12_copyBook (l : Launch) (G : va_G) (cy : Nat → ClassId) (sz : Nat) (a_0 : Nat) (i_0 : Int32) (a_1 : Nat) (a_2 : Nat) (a_3 : Nat) (a_4 : Nat) (a_5 : Nat) (i_1 : Int32) (i_2 : Int32) (i_3 : Int32) (i_4 : Int32) (i_5 : Int32) (j_0 : Int64) (i_6 : Int32) (i_7 : Int32) (i_8 : Int32) (i_9 : Int32) (a_6 : Nat) (a_7 : Nat) (a_8 : Nat) (a_9 : Nat) (a_10 : Nat) (a_11 : Nat) (a_12 : Nat) (a_13 : Nat) (a_14 : Nat) (a_15 : Nat) (a_16 : Nat) (a_17 : Nat) (a_18 : Nat) (i_10 : Int32) (i_11 : Int32) (i_12 : Int32) (i_13 : Int32) (i_14 : Int32) (i_15 : Int32) (a_19 : Nat) (i_16 : Int32) (a_20 : Nat) (i_17 : Int32) (i_18 : Int32) (i_19 : Int32) (i_20 : Int32) (i_21 : Int32) (i_22 : Int32) (i_23 : Int32) (i_24 : Int32) (i_25 : Int32) (i_26 : Int32) (i_27 : Int32) (i_28 : Int32) (i_29 : Int32) (i_30 : Int32) (i_31 : Int32) (i_32 : Int32) (i_33 : Int32) (i_34 : Int32) (i_35 : Int32) (i_36 : Int32) (i_37 : Int32) (i_38 : Int32) (i_39 : Int32) (i_40 : Int32) (i_41 : Int32) (i_42 : Int32) (i_43 : Int32) (i_44 : Int32) (i_45 : Int32) (i_46 : Int32) (i_47 : Int32) (i_48 : Int32) (i_49 : Int32) (i_50 : Int32) (i_51 : Int32) (f_0 : Nat → Int32) (f_1 : Nat → Int32) (f_2 : Nat → Int32) (f_3 : Nat → Int32) (f_4 : Nat → Int32) (f_5 : Nat → Int32) (h0 : mm_rg i_17 0 601) (h1 : mm_rg i_18 0 601) (h2 : mm_rg i_19 0 601) (h3 : mm_rg i_20 0 601) (h4 : mm_rg i_21 0 601) (h5 : mm_rg i_22 0 10) (h6 : mm_rg i_23 0 99) (h7 : mm_rg i_24 0 9) (h8 : mm_rg i_25 0 3) (h9 : mm_rg i_26 0 6) (h10 : mm_rg i_27 0 30) (h11 : mm_rg i_28 0 10) (h12 : mm_rg i_29 0 99) (h13 : mm_rg i_30 0 9) (h14 : mm_rg i_31 0 3) (h15 : mm_rg i_32 0 6) (h16 : mm_rg i_33 0 30) (h17 : mm_rg i_34 0 10) (h18 : mm_rg i_35 0 99) (h19 : mm_rg i_36 0 9) (h20 : mm_rg i_37 0 3) (h21 : mm_rg i_38 0 6) (h22 : mm_rg i_39 0 30) (h23 : mm_rg i_40 0 10) (h24 : mm_rg i_41 0 99) (h25 : mm_rg i_42 0 9) (h26 : mm_rg i_43 0 3) (h27 : mm_rg i_44 0 6) (h28 : mm_rg i_45 0 30) (h29 : mm_rg i_46 0 10) (h30 : mm_rg i_47 0 99) (h31 : mm_rg i_48 0 9) (h32 : mm_rg i_49 0 3) (h33 : mm_rg i_50 0 6) (h34 : mm_rg i_51 0 30) (h35 : mm_ar f_0 0 99) (h36 : mm_ar f_1 0 7) (h37 : mm_ar f_2 0 9) (h38 : mm_ar f_3 0 8) (h39 : mm_ar f_4 0 9) (h40 : mm_ar f_5 (-1) 99) (h41 : mm_rls f_1 f_2 0 i_24 i_25) (h42 : mm_txs f_3 f_4 0 i_24 i_26) (h43 : mm_acs f_5 0 i_24 i_25 i_27) (h44 : mm_tl i_17 i_25 i_26) (h45 : mm_rls f_1 f_2 1 i_30 i_31) (h46 : mm_txs f_3 f_4 1 i_30 i_32) (h47 : mm_acs f_5 1 i_30 i_31 i_33) (h48 : mm_tl i_18 i_31 i_32) (h49 : mm_rls f_1 f_2 2 i_36 i_37) (h50 : mm_txs f_3 f_4 2 i_36 i_38) (h51 : mm_acs f_5 2 i_36 i_37 i_39) (h52 : mm_tl i_19 i_37 i_38) (h53 : mm_rls f_1 f_2 3 i_42 i_43) (h54 : mm_txs f_3 f_4 3 i_42 i_44) (h55 : mm_acs f_5 3 i_42 i_43 i_45) (h56 : mm_tl i_20 i_43 i_44)  : mm_CV l yX12_copyBook (mm_ws yX12_copyBook cX12_copyBook 3 (none)) ({ frames := 1, cells := 0, slots := 0, locals := 24 } : Room) G cy sz [(a_0, .inr (12, [.int i_0, .ref a_1, .ref a_2, .ref a_3, .ref a_4, .ref a_5, .int i_1, .int i_2, .int i_3, .int i_4, .int i_5, .long j_0, .int i_6, .int i_7, .int i_8, .int i_9, .ref a_6, .ref a_7, .ref a_8, .ref a_9, .ref a_10, .ref a_11, .ref a_12, .ref a_13, .ref a_14, .ref a_15, .ref a_16, .ref a_17, .ref a_18, .int i_10, .int i_11, .int i_12, .int i_13, .int i_14, .int i_15, .ref a_19, .int i_16, .ref a_20])), (a_6, .inl (cy 1, 5, .inl (mm_g [i_17, i_18, i_19, i_20, i_21]))), (a_7, .inl (cy 1, 30, .inl (mm_g [i_22, i_23, i_24, i_25, i_26, i_27, i_28, i_29, i_30, i_31, i_32, i_33, i_34, i_35, i_36, i_37, i_38, i_39, i_40, i_41, i_42, i_43, i_44, i_45, i_46, i_47, i_48, i_49, i_50, i_51]))), (a_8, .inl (cy 1, 90, .inl f_0)), (a_9, .inl (cy 1, 15, .inl f_1)), (a_10, .inl (cy 1, 1050, .inl f_2)), (a_11, .inl (cy 1, 30, .inl f_3)), (a_12, .inl (cy 1, 240, .inl f_4)), (a_13, .inl (cy 1, 450, .inl f_5))] [.ref a_0, .int 3, .int 0] (fun u : (Nat → Int32) × (Nat → Int32) × (Nat → Int32) × (Nat → Int32) × (Nat → Int32) × (Nat → Int32) => [(a_0, .inr (12, [.int i_0, .ref a_1, .ref a_2, .ref a_3, .ref a_4, .ref a_5, .int i_1, .int i_2, .int i_3, .int i_4, .int i_5, .long j_0, .int i_6, .int i_7, .int i_8, .int i_9, .ref a_6, .ref a_7, .ref a_8, .ref a_9, .ref a_10, .ref a_11, .ref a_12, .ref a_13, .ref a_14, .ref a_15, .ref a_16, .ref a_17, .ref a_18, .int i_10, .int i_11, .int i_12, .int i_13, .int i_14, .int i_15, .ref a_19, .int i_16, .ref a_20])), (a_6, .inl (cy 1, 5, .inl (mm_g [i_20, i_18, i_19, i_20, i_21]))), (a_7, .inl (cy 1, 30, .inl (mm_g [i_40, i_41, i_42, i_43, i_44, i_45, i_28, i_29, i_30, i_31, i_32, i_33, i_34, i_35, i_36, i_37, i_38, i_39, i_40, i_41, i_42, i_43, i_44, i_45, i_46, i_47, i_48, i_49, i_50, i_51]))), (a_8, .inl (cy 1, 90, .inl u.1)), (a_9, .inl (cy 1, 15, .inl u.2.1)), (a_10, .inl (cy 1, 1050, .inl u.2.2.1)), (a_11, .inl (cy 1, 30, .inl u.2.2.2.1)), (a_12, .inl (cy 1, 240, .inl u.2.2.2.2.1)), (a_13, .inl (cy 1, 450, .inl u.2.2.2.2.2))]) (fun u : (Nat → Int32) × (Nat → Int32) × (Nat → Int32) × (Nat → Int32) × (Nat → Int32) × (Nat → Int32) => mm_ar u.1 0 99 ∧ mm_ar u.2.1 0 7 ∧ mm_ar u.2.2.1 0 9 ∧ mm_ar u.2.2.2.1 0 8 ∧ mm_ar u.2.2.2.2.1 0 9 ∧ mm_ar u.2.2.2.2.2 (-1) 99 ∧ mm_rls u.2.1 u.2.2.1 0 i_42 i_43 ∧ mm_txs u.2.2.2.1 u.2.2.2.2.1 0 i_42 i_44 ∧ mm_acs u.2.2.2.2.2 0 i_42 i_43 i_45 ∧ mm_rls u.2.1 u.2.2.1 1 i_30 i_31 ∧ mm_txs u.2.2.2.1 u.2.2.2.2.1 1 i_30 i_32 ∧ mm_acs u.2.2.2.2.2 1 i_30 i_31 i_33 ∧ mm_rls u.2.1 u.2.2.1 2 i_36 i_37 ∧ mm_txs u.2.2.2.1 u.2.2.2.2.1 2 i_36 i_38 ∧ mm_acs u.2.2.2.2.2 2 i_36 i_37 i_39 ∧ mm_rls u.2.1 u.2.2.1 3 i_42 i_43 ∧ mm_txs u.2.2.2.1 u.2.2.2.2.1 3 i_42 i_44 ∧ mm_acs u.2.2.2.2.2 3 i_42 i_43 i_45) 0 0 := by
  refine mm_begin (lv := [(0, .ref a_0), (1, .int 3), (2, .int 0)]) (by decide) (Nat.le_of_ble_eq_true rfl) rfl ?_
  intro p e s m below meth c A ls R args Q H locs hRe hQ hAe hx hb hr hlocks hml hown hnm hts hsz hA hS hP hK hD hZ hl
  have hRf : R.frames = 1 := by rw [hRe]
  have hRl : R.locals = 24 := by rw [hRe]
  have hRc : R.cells = 0 := by rw [hRe]
  have hRs : R.slots = 0 := by rw [hRe]
  refine lv_aload_n hx hb dX12_copyBook_0 rfl (lv_at hl 0 rfl) ?_
  refine va_get (D := G) (ci := 12) (v := .ref a_6) (C := RX12) (T := TX12) (N := 38) hx hb hts (mm_i inlX12) hown hK.1 hP 0 rfl rfl 16 (by decide) (mm_h hts mm_w148) (fun _ h9 => h9) rfl dX12_copyBook_1 ?_
  refine lv_iconst (v := 1) hx hb dX12_copyBook_4 (by decide) ?_
  refine lv_iload_n hx hb dX12_copyBook_5 rfl (lv_at hl 1 rfl) ?_
  refine lv_iload_n hx hb dX12_copyBook_6 rfl (lv_at hl 2 rfl) ?_
  refine mm_finv (va_runS (As := [.ref a_6, .int 1, .int 3, .int 0]) (rest := []) ⟨hx, hb, hml, hown, hts⟩ (M369_X12_copyRow l G cy H.size a_6 i_17 i_18 i_19 i_20 i_21 h0 h1 h2 h3 h4) (va_cwS 4 hts (mm_gS mm_w557 mm_w558 mm_w5 mm_w559) rfl rfl rfl hs_X12_copyRow ⟨by rw [hRf]; exact Nat.le_of_ble_eq_true rfl, by rw [hRl]; exact Nat.le_of_ble_eq_true rfl⟩) (mm_preS hK hZ hS hA hP hD [1] rfl rfl) rfl rfl hl.1 rfl (lv_room (Nat.le_of_ble_eq_true rfl)) dX12_copyBook_7 ⟨by rw [hRc]; exact Nat.le_of_ble_eq_true rfl, by rw [hRs]; exact Nat.le_of_ble_eq_true rfl⟩) hP hD hS hA (fun u : Unit => [(a_0, .inr (12, [.int i_0, .ref a_1, .ref a_2, .ref a_3, .ref a_4, .ref a_5, .int i_1, .int i_2, .int i_3, .int i_4, .int i_5, .long j_0, .int i_6, .int i_7, .int i_8, .int i_9, .ref a_6, .ref a_7, .ref a_8, .ref a_9, .ref a_10, .ref a_11, .ref a_12, .ref a_13, .ref a_14, .ref a_15, .ref a_16, .ref a_17, .ref a_18, .int i_10, .int i_11, .int i_12, .int i_13, .int i_14, .int i_15, .ref a_19, .int i_16, .ref a_20])), (a_6, .inl (cy 1, 5, .inl (mm_g [i_20, i_18, i_19, i_20, i_21]))), (a_7, .inl (cy 1, 30, .inl (mm_g [i_22, i_23, i_24, i_25, i_26, i_27, i_28, i_29, i_30, i_31, i_32, i_33, i_34, i_35, i_36, i_37, i_38, i_39, i_40, i_41, i_42, i_43, i_44, i_45, i_46, i_47, i_48, i_49, i_50, i_51]))), (a_8, .inl (cy 1, 90, .inl f_0)), (a_9, .inl (cy 1, 15, .inl f_1)), (a_10, .inl (cy 1, 1050, .inl f_2)), (a_11, .inl (cy 1, 30, .inl f_3)), (a_12, .inl (cy 1, 240, .inl f_4)), (a_13, .inl (cy 1, 450, .inl f_5))]) [1] [0, 2, 3, 4, 5, 6, 7, 8] (n := 9) (fun _ => rfl) (by decide +kernel) (by decide +kernel) rfl (fun _ => rfl) (wr := [(a_0, .inr (12, [.int i_0, .ref a_1, .ref a_2, .ref a_3, .ref a_4, .ref a_5, .int i_1, .int i_2, .int i_3, .int i_4, .int i_5, .long j_0, .int i_6, .int i_7, .int i_8, .int i_9, .ref a_6, .ref a_7, .ref a_8, .ref a_9, .ref a_10, .ref a_11, .ref a_12, .ref a_13, .ref a_14, .ref a_15, .ref a_16, .ref a_17, .ref a_18, .int i_10, .int i_11, .int i_12, .int i_13, .int i_14, .int i_15, .ref a_19, .int i_16, .ref a_20])), (a_7, .inl (cy 1, 30, .inl (mm_g [i_22, i_23, i_24, i_25, i_26, i_27, i_28, i_29, i_30, i_31, i_32, i_33, i_34, i_35, i_36, i_37, i_38, i_39, i_40, i_41, i_42, i_43, i_44, i_45, i_46, i_47, i_48, i_49, i_50, i_51]))), (a_8, .inl (cy 1, 90, .inl f_0)), (a_9, .inl (cy 1, 15, .inl f_1)), (a_10, .inl (cy 1, 1050, .inl f_2)), (a_11, .inl (cy 1, 30, .inl f_3)), (a_12, .inl (cy 1, 240, .inl f_4)), (a_13, .inl (cy 1, 450, .inl f_5))]) rfl (fun _ => rfl) (fun _ => @rfl _ ([a_6] : List Nat)) ?_
  clear hP hD hS
  clear H locs
  intro _u H locs hw (hP : va_P G vwCl [(a_0, .inr (12, [.int i_0, .ref a_1, .ref a_2, .ref a_3, .ref a_4, .ref a_5, .int i_1, .int i_2, .int i_3, .int i_4, .int i_5, .long j_0, .int i_6, .int i_7, .int i_8, .int i_9, .ref a_6, .ref a_7, .ref a_8, .ref a_9, .ref a_10, .ref a_11, .ref a_12, .ref a_13, .ref a_14, .ref a_15, .ref a_16, .ref a_17, .ref a_18, .int i_10, .int i_11, .int i_12, .int i_13, .int i_14, .int i_15, .ref a_19, .int i_16, .ref a_20])), (a_6, .inl (cy 1, 5, .inl (mm_g [i_20, i_18, i_19, i_20, i_21]))), (a_7, .inl (cy 1, 30, .inl (mm_g [i_22, i_23, i_24, i_25, i_26, i_27, i_28, i_29, i_30, i_31, i_32, i_33, i_34, i_35, i_36, i_37, i_38, i_39, i_40, i_41, i_42, i_43, i_44, i_45, i_46, i_47, i_48, i_49, i_50, i_51]))), (a_8, .inl (cy 1, 90, .inl f_0)), (a_9, .inl (cy 1, 15, .inl f_1)), (a_10, .inl (cy 1, 1050, .inl f_2)), (a_11, .inl (cy 1, 30, .inl f_3)), (a_12, .inl (cy 1, 240, .inl f_4)), (a_13, .inl (cy 1, 450, .inl f_5))] H) (hD : va_D A [(a_0, .inr (12, [.int i_0, .ref a_1, .ref a_2, .ref a_3, .ref a_4, .ref a_5, .int i_1, .int i_2, .int i_3, .int i_4, .int i_5, .long j_0, .int i_6, .int i_7, .int i_8, .int i_9, .ref a_6, .ref a_7, .ref a_8, .ref a_9, .ref a_10, .ref a_11, .ref a_12, .ref a_13, .ref a_14, .ref a_15, .ref a_16, .ref a_17, .ref a_18, .int i_10, .int i_11, .int i_12, .int i_13, .int i_14, .int i_15, .ref a_19, .int i_16, .ref a_20])), (a_6, .inl (cy 1, 5, .inl (mm_g [i_20, i_18, i_19, i_20, i_21]))), (a_7, .inl (cy 1, 30, .inl (mm_g [i_22, i_23, i_24, i_25, i_26, i_27, i_28, i_29, i_30, i_31, i_32, i_33, i_34, i_35, i_36, i_37, i_38, i_39, i_40, i_41, i_42, i_43, i_44, i_45, i_46, i_47, i_48, i_49, i_50, i_51]))), (a_8, .inl (cy 1, 90, .inl f_0)), (a_9, .inl (cy 1, 15, .inl f_1)), (a_10, .inl (cy 1, 1050, .inl f_2)), (a_11, .inl (cy 1, 30, .inl f_3)), (a_12, .inl (cy 1, 240, .inl f_4)), (a_13, .inl (cy 1, 450, .inl f_5))]) hS
  refine lv_aload_n hx hb dX12_copyBook_10 rfl (lv_at hl 0 rfl) ?_
  refine va_get (D := G) (ci := 12) (v := .ref a_7) (C := RX12) (T := TX12) (N := 38) hx hb hts (mm_i inlX12) hown hK.1 hP 0 rfl rfl 17 (by decide) (mm_h hts mm_w149) (fun _ h9 => h9) rfl dX12_copyBook_11 ?_
  refine lv_bipush (v := 6) hx hb dX12_copyBook_14 (by decide) ?_
  refine lv_iload_n hx hb dX12_copyBook_16 rfl (lv_at hl 1 rfl) ?_
  refine lv_iload_n hx hb dX12_copyBook_17 rfl (lv_at hl 2 rfl) ?_
  refine mm_finv (va_runS (As := [.ref a_7, .int 6, .int 3, .int 0]) (rest := []) ⟨hx, hb, hml, hown, hts⟩ (M370_X12_copyRow l G cy H.size a_7 i_22 i_23 i_24 i_25 i_26 i_27 i_28 i_29 i_30 i_31 i_32 i_33 i_34 i_35 i_36 i_37 i_38 i_39 i_40 i_41 i_42 i_43 i_44 i_45 i_46 i_47 i_48 i_49 i_50 i_51 h5 h6 h7 h8 h9 h10 h11 h12 h13 h14 h15 h16 h17 h18 h19 h20 h21 h22 h23 h24 h25 h26 h27 h28 h29 h30 h31 h32 h33 h34) (va_cwS 4 hts (mm_gS mm_w557 mm_w558 mm_w5 mm_w559) rfl rfl rfl hs_X12_copyRow ⟨by rw [hRf]; exact Nat.le_of_ble_eq_true rfl, by rw [hRl]; exact Nat.le_of_ble_eq_true rfl⟩) (mm_preS hK hZ hS hA hP hD [2] rfl rfl) rfl rfl hl.1 rfl (lv_room (Nat.le_of_ble_eq_true rfl)) dX12_copyBook_18 ⟨by rw [hRc]; exact Nat.le_of_ble_eq_true rfl, by rw [hRs]; exact Nat.le_of_ble_eq_true rfl⟩) hP hD hS hA (fun u : Unit => [(a_0, .inr (12, [.int i_0, .ref a_1, .ref a_2, .ref a_3, .ref a_4, .ref a_5, .int i_1, .int i_2, .int i_3, .int i_4, .int i_5, .long j_0, .int i_6, .int i_7, .int i_8, .int i_9, .ref a_6, .ref a_7, .ref a_8, .ref a_9, .ref a_10, .ref a_11, .ref a_12, .ref a_13, .ref a_14, .ref a_15, .ref a_16, .ref a_17, .ref a_18, .int i_10, .int i_11, .int i_12, .int i_13, .int i_14, .int i_15, .ref a_19, .int i_16, .ref a_20])), (a_6, .inl (cy 1, 5, .inl (mm_g [i_20, i_18, i_19, i_20, i_21]))), (a_7, .inl (cy 1, 30, .inl (mm_g [i_40, i_41, i_42, i_43, i_44, i_45, i_28, i_29, i_30, i_31, i_32, i_33, i_34, i_35, i_36, i_37, i_38, i_39, i_40, i_41, i_42, i_43, i_44, i_45, i_46, i_47, i_48, i_49, i_50, i_51]))), (a_8, .inl (cy 1, 90, .inl f_0)), (a_9, .inl (cy 1, 15, .inl f_1)), (a_10, .inl (cy 1, 1050, .inl f_2)), (a_11, .inl (cy 1, 30, .inl f_3)), (a_12, .inl (cy 1, 240, .inl f_4)), (a_13, .inl (cy 1, 450, .inl f_5))]) [2] [0, 1, 3, 4, 5, 6, 7, 8] (n := 9) (fun _ => rfl) (by decide +kernel) (by decide +kernel) rfl (fun _ => rfl) (wr := [(a_0, .inr (12, [.int i_0, .ref a_1, .ref a_2, .ref a_3, .ref a_4, .ref a_5, .int i_1, .int i_2, .int i_3, .int i_4, .int i_5, .long j_0, .int i_6, .int i_7, .int i_8, .int i_9, .ref a_6, .ref a_7, .ref a_8, .ref a_9, .ref a_10, .ref a_11, .ref a_12, .ref a_13, .ref a_14, .ref a_15, .ref a_16, .ref a_17, .ref a_18, .int i_10, .int i_11, .int i_12, .int i_13, .int i_14, .int i_15, .ref a_19, .int i_16, .ref a_20])), (a_6, .inl (cy 1, 5, .inl (mm_g [i_20, i_18, i_19, i_20, i_21]))), (a_8, .inl (cy 1, 90, .inl f_0)), (a_9, .inl (cy 1, 15, .inl f_1)), (a_10, .inl (cy 1, 1050, .inl f_2)), (a_11, .inl (cy 1, 30, .inl f_3)), (a_12, .inl (cy 1, 240, .inl f_4)), (a_13, .inl (cy 1, 450, .inl f_5))]) rfl (fun _ => rfl) (fun _ => @rfl _ ([a_7] : List Nat)) ?_
  clear hP hD hS
  clear H locs
  intro _u H locs hw (hP : va_P G vwCl [(a_0, .inr (12, [.int i_0, .ref a_1, .ref a_2, .ref a_3, .ref a_4, .ref a_5, .int i_1, .int i_2, .int i_3, .int i_4, .int i_5, .long j_0, .int i_6, .int i_7, .int i_8, .int i_9, .ref a_6, .ref a_7, .ref a_8, .ref a_9, .ref a_10, .ref a_11, .ref a_12, .ref a_13, .ref a_14, .ref a_15, .ref a_16, .ref a_17, .ref a_18, .int i_10, .int i_11, .int i_12, .int i_13, .int i_14, .int i_15, .ref a_19, .int i_16, .ref a_20])), (a_6, .inl (cy 1, 5, .inl (mm_g [i_20, i_18, i_19, i_20, i_21]))), (a_7, .inl (cy 1, 30, .inl (mm_g [i_40, i_41, i_42, i_43, i_44, i_45, i_28, i_29, i_30, i_31, i_32, i_33, i_34, i_35, i_36, i_37, i_38, i_39, i_40, i_41, i_42, i_43, i_44, i_45, i_46, i_47, i_48, i_49, i_50, i_51]))), (a_8, .inl (cy 1, 90, .inl f_0)), (a_9, .inl (cy 1, 15, .inl f_1)), (a_10, .inl (cy 1, 1050, .inl f_2)), (a_11, .inl (cy 1, 30, .inl f_3)), (a_12, .inl (cy 1, 240, .inl f_4)), (a_13, .inl (cy 1, 450, .inl f_5))] H) (hD : va_D A [(a_0, .inr (12, [.int i_0, .ref a_1, .ref a_2, .ref a_3, .ref a_4, .ref a_5, .int i_1, .int i_2, .int i_3, .int i_4, .int i_5, .long j_0, .int i_6, .int i_7, .int i_8, .int i_9, .ref a_6, .ref a_7, .ref a_8, .ref a_9, .ref a_10, .ref a_11, .ref a_12, .ref a_13, .ref a_14, .ref a_15, .ref a_16, .ref a_17, .ref a_18, .int i_10, .int i_11, .int i_12, .int i_13, .int i_14, .int i_15, .ref a_19, .int i_16, .ref a_20])), (a_6, .inl (cy 1, 5, .inl (mm_g [i_20, i_18, i_19, i_20, i_21]))), (a_7, .inl (cy 1, 30, .inl (mm_g [i_40, i_41, i_42, i_43, i_44, i_45, i_28, i_29, i_30, i_31, i_32, i_33, i_34, i_35, i_36, i_37, i_38, i_39, i_40, i_41, i_42, i_43, i_44, i_45, i_46, i_47, i_48, i_49, i_50, i_51]))), (a_8, .inl (cy 1, 90, .inl f_0)), (a_9, .inl (cy 1, 15, .inl f_1)), (a_10, .inl (cy 1, 1050, .inl f_2)), (a_11, .inl (cy 1, 30, .inl f_3)), (a_12, .inl (cy 1, 240, .inl f_4)), (a_13, .inl (cy 1, 450, .inl f_5))]) hS
  refine lv_aload_n hx hb dX12_copyBook_21 rfl (lv_at hl 0 rfl) ?_
  refine va_get (D := G) (ci := 12) (v := .ref a_8) (C := RX12) (T := TX12) (N := 38) hx hb hts (mm_i inlX12) hown hK.1 hP 0 rfl rfl 18 (by decide) (mm_h hts mm_w150) (fun _ h9 => h9) rfl dX12_copyBook_22 ?_
  refine lv_bipush (v := 18) hx hb dX12_copyBook_25 (by decide) ?_
  refine lv_iload_n hx hb dX12_copyBook_27 rfl (lv_at hl 1 rfl) ?_
  refine lv_iload_n hx hb dX12_copyBook_28 rfl (lv_at hl 2 rfl) ?_
  refine mm_finv (va_runS (As := [.ref a_8, .int 18, .int 3, .int 0]) (rest := []) ⟨hx, hb, hml, hown, hts⟩ (M371_X12_copyRow l G cy H.size a_8 f_0 h35) (va_cwS 4 hts (mm_gS mm_w557 mm_w558 mm_w5 mm_w559) rfl rfl rfl hs_X12_copyRow ⟨by rw [hRf]; exact Nat.le_of_ble_eq_true rfl, by rw [hRl]; exact Nat.le_of_ble_eq_true rfl⟩) (mm_preS hK hZ hS hA hP hD [3] rfl rfl) rfl rfl hl.1 rfl (lv_room (Nat.le_of_ble_eq_true rfl)) dX12_copyBook_29 ⟨by rw [hRc]; exact Nat.le_of_ble_eq_true rfl, by rw [hRs]; exact Nat.le_of_ble_eq_true rfl⟩) hP hD hS hA (fun u : (Nat → Int32) => [(a_0, .inr (12, [.int i_0, .ref a_1, .ref a_2, .ref a_3, .ref a_4, .ref a_5, .int i_1, .int i_2, .int i_3, .int i_4, .int i_5, .long j_0, .int i_6, .int i_7, .int i_8, .int i_9, .ref a_6, .ref a_7, .ref a_8, .ref a_9, .ref a_10, .ref a_11, .ref a_12, .ref a_13, .ref a_14, .ref a_15, .ref a_16, .ref a_17, .ref a_18, .int i_10, .int i_11, .int i_12, .int i_13, .int i_14, .int i_15, .ref a_19, .int i_16, .ref a_20])), (a_6, .inl (cy 1, 5, .inl (mm_g [i_20, i_18, i_19, i_20, i_21]))), (a_7, .inl (cy 1, 30, .inl (mm_g [i_40, i_41, i_42, i_43, i_44, i_45, i_28, i_29, i_30, i_31, i_32, i_33, i_34, i_35, i_36, i_37, i_38, i_39, i_40, i_41, i_42, i_43, i_44, i_45, i_46, i_47, i_48, i_49, i_50, i_51]))), (a_8, .inl (cy 1, 90, .inl u)), (a_9, .inl (cy 1, 15, .inl f_1)), (a_10, .inl (cy 1, 1050, .inl f_2)), (a_11, .inl (cy 1, 30, .inl f_3)), (a_12, .inl (cy 1, 240, .inl f_4)), (a_13, .inl (cy 1, 450, .inl f_5))]) [3] [0, 1, 2, 4, 5, 6, 7, 8] (n := 9) (fun _ => rfl) (by decide +kernel) (by decide +kernel) rfl (fun _ => rfl) (wr := [(a_0, .inr (12, [.int i_0, .ref a_1, .ref a_2, .ref a_3, .ref a_4, .ref a_5, .int i_1, .int i_2, .int i_3, .int i_4, .int i_5, .long j_0, .int i_6, .int i_7, .int i_8, .int i_9, .ref a_6, .ref a_7, .ref a_8, .ref a_9, .ref a_10, .ref a_11, .ref a_12, .ref a_13, .ref a_14, .ref a_15, .ref a_16, .ref a_17, .ref a_18, .int i_10, .int i_11, .int i_12, .int i_13, .int i_14, .int i_15, .ref a_19, .int i_16, .ref a_20])), (a_6, .inl (cy 1, 5, .inl (mm_g [i_20, i_18, i_19, i_20, i_21]))), (a_7, .inl (cy 1, 30, .inl (mm_g [i_40, i_41, i_42, i_43, i_44, i_45, i_28, i_29, i_30, i_31, i_32, i_33, i_34, i_35, i_36, i_37, i_38, i_39, i_40, i_41, i_42, i_43, i_44, i_45, i_46, i_47, i_48, i_49, i_50, i_51]))), (a_9, .inl (cy 1, 15, .inl f_1)), (a_10, .inl (cy 1, 1050, .inl f_2)), (a_11, .inl (cy 1, 30, .inl f_3)), (a_12, .inl (cy 1, 240, .inl f_4)), (a_13, .inl (cy 1, 450, .inl f_5))]) rfl (fun _ => rfl) (fun _ => rfl) ?_
  clear hP hD hS
  clear H locs
  intro n1 H locs hw (hP : va_P G vwCl [(a_0, .inr (12, [.int i_0, .ref a_1, .ref a_2, .ref a_3, .ref a_4, .ref a_5, .int i_1, .int i_2, .int i_3, .int i_4, .int i_5, .long j_0, .int i_6, .int i_7, .int i_8, .int i_9, .ref a_6, .ref a_7, .ref a_8, .ref a_9, .ref a_10, .ref a_11, .ref a_12, .ref a_13, .ref a_14, .ref a_15, .ref a_16, .ref a_17, .ref a_18, .int i_10, .int i_11, .int i_12, .int i_13, .int i_14, .int i_15, .ref a_19, .int i_16, .ref a_20])), (a_6, .inl (cy 1, 5, .inl (mm_g [i_20, i_18, i_19, i_20, i_21]))), (a_7, .inl (cy 1, 30, .inl (mm_g [i_40, i_41, i_42, i_43, i_44, i_45, i_28, i_29, i_30, i_31, i_32, i_33, i_34, i_35, i_36, i_37, i_38, i_39, i_40, i_41, i_42, i_43, i_44, i_45, i_46, i_47, i_48, i_49, i_50, i_51]))), (a_8, .inl (cy 1, 90, .inl n1)), (a_9, .inl (cy 1, 15, .inl f_1)), (a_10, .inl (cy 1, 1050, .inl f_2)), (a_11, .inl (cy 1, 30, .inl f_3)), (a_12, .inl (cy 1, 240, .inl f_4)), (a_13, .inl (cy 1, 450, .inl f_5))] H) (hD : va_D A [(a_0, .inr (12, [.int i_0, .ref a_1, .ref a_2, .ref a_3, .ref a_4, .ref a_5, .int i_1, .int i_2, .int i_3, .int i_4, .int i_5, .long j_0, .int i_6, .int i_7, .int i_8, .int i_9, .ref a_6, .ref a_7, .ref a_8, .ref a_9, .ref a_10, .ref a_11, .ref a_12, .ref a_13, .ref a_14, .ref a_15, .ref a_16, .ref a_17, .ref a_18, .int i_10, .int i_11, .int i_12, .int i_13, .int i_14, .int i_15, .ref a_19, .int i_16, .ref a_20])), (a_6, .inl (cy 1, 5, .inl (mm_g [i_20, i_18, i_19, i_20, i_21]))), (a_7, .inl (cy 1, 30, .inl (mm_g [i_40, i_41, i_42, i_43, i_44, i_45, i_28, i_29, i_30, i_31, i_32, i_33, i_34, i_35, i_36, i_37, i_38, i_39, i_40, i_41, i_42, i_43, i_44, i_45, i_46, i_47, i_48, i_49, i_50, i_51]))), (a_8, .inl (cy 1, 90, .inl n1)), (a_9, .inl (cy 1, 15, .inl f_1)), (a_10, .inl (cy 1, 1050, .inl f_2)), (a_11, .inl (cy 1, 30, .inl f_3)), (a_12, .inl (cy 1, 240, .inl f_4)), (a_13, .inl (cy 1, 450, .inl f_5))]) hS
  obtain ⟨w2, w3⟩ := hw
  refine lv_aload_n hx hb dX12_copyBook_32 rfl (lv_at hl 0 rfl) ?_
  refine va_get (D := G) (ci := 12) (v := .ref a_9) (C := RX12) (T := TX12) (N := 38) hx hb hts (mm_i inlX12) hown hK.1 hP 0 rfl rfl 19 (by decide) (mm_h hts mm_w151) (fun _ h9 => h9) rfl dX12_copyBook_33 ?_
  refine lv_iconst (v := 3) hx hb dX12_copyBook_36 (by decide) ?_
  refine lv_iload_n hx hb dX12_copyBook_37 rfl (lv_at hl 1 rfl) ?_
  refine lv_iload_n hx hb dX12_copyBook_38 rfl (lv_at hl 2 rfl) ?_
  refine mm_finv (va_runS (As := [.ref a_9, .int 3, .int 3, .int 0]) (rest := []) ⟨hx, hb, hml, hown, hts⟩ (M372_X12_copyRow l G cy H.size a_9 f_1 h36) (va_cwS 4 hts (mm_gS mm_w557 mm_w558 mm_w5 mm_w559) rfl rfl rfl hs_X12_copyRow ⟨by rw [hRf]; exact Nat.le_of_ble_eq_true rfl, by rw [hRl]; exact Nat.le_of_ble_eq_true rfl⟩) (mm_preS hK hZ hS hA hP hD [4] rfl rfl) rfl rfl hl.1 rfl (lv_room (Nat.le_of_ble_eq_true rfl)) dX12_copyBook_39 ⟨by rw [hRc]; exact Nat.le_of_ble_eq_true rfl, by rw [hRs]; exact Nat.le_of_ble_eq_true rfl⟩) hP hD hS hA (fun u : (Nat → Int32) => [(a_0, .inr (12, [.int i_0, .ref a_1, .ref a_2, .ref a_3, .ref a_4, .ref a_5, .int i_1, .int i_2, .int i_3, .int i_4, .int i_5, .long j_0, .int i_6, .int i_7, .int i_8, .int i_9, .ref a_6, .ref a_7, .ref a_8, .ref a_9, .ref a_10, .ref a_11, .ref a_12, .ref a_13, .ref a_14, .ref a_15, .ref a_16, .ref a_17, .ref a_18, .int i_10, .int i_11, .int i_12, .int i_13, .int i_14, .int i_15, .ref a_19, .int i_16, .ref a_20])), (a_6, .inl (cy 1, 5, .inl (mm_g [i_20, i_18, i_19, i_20, i_21]))), (a_7, .inl (cy 1, 30, .inl (mm_g [i_40, i_41, i_42, i_43, i_44, i_45, i_28, i_29, i_30, i_31, i_32, i_33, i_34, i_35, i_36, i_37, i_38, i_39, i_40, i_41, i_42, i_43, i_44, i_45, i_46, i_47, i_48, i_49, i_50, i_51]))), (a_8, .inl (cy 1, 90, .inl n1)), (a_9, .inl (cy 1, 15, .inl u)), (a_10, .inl (cy 1, 1050, .inl f_2)), (a_11, .inl (cy 1, 30, .inl f_3)), (a_12, .inl (cy 1, 240, .inl f_4)), (a_13, .inl (cy 1, 450, .inl f_5))]) [4] [0, 1, 2, 3, 5, 6, 7, 8] (n := 9) (fun _ => rfl) (by decide +kernel) (by decide +kernel) rfl (fun _ => rfl) (wr := [(a_0, .inr (12, [.int i_0, .ref a_1, .ref a_2, .ref a_3, .ref a_4, .ref a_5, .int i_1, .int i_2, .int i_3, .int i_4, .int i_5, .long j_0, .int i_6, .int i_7, .int i_8, .int i_9, .ref a_6, .ref a_7, .ref a_8, .ref a_9, .ref a_10, .ref a_11, .ref a_12, .ref a_13, .ref a_14, .ref a_15, .ref a_16, .ref a_17, .ref a_18, .int i_10, .int i_11, .int i_12, .int i_13, .int i_14, .int i_15, .ref a_19, .int i_16, .ref a_20])), (a_6, .inl (cy 1, 5, .inl (mm_g [i_20, i_18, i_19, i_20, i_21]))), (a_7, .inl (cy 1, 30, .inl (mm_g [i_40, i_41, i_42, i_43, i_44, i_45, i_28, i_29, i_30, i_31, i_32, i_33, i_34, i_35, i_36, i_37, i_38, i_39, i_40, i_41, i_42, i_43, i_44, i_45, i_46, i_47, i_48, i_49, i_50, i_51]))), (a_8, .inl (cy 1, 90, .inl n1)), (a_10, .inl (cy 1, 1050, .inl f_2)), (a_11, .inl (cy 1, 30, .inl f_3)), (a_12, .inl (cy 1, 240, .inl f_4)), (a_13, .inl (cy 1, 450, .inl f_5))]) rfl (fun _ => rfl) (fun _ => rfl) ?_
  clear hP hD hS
  clear H locs
  intro n4 H locs hw (hP : va_P G vwCl [(a_0, .inr (12, [.int i_0, .ref a_1, .ref a_2, .ref a_3, .ref a_4, .ref a_5, .int i_1, .int i_2, .int i_3, .int i_4, .int i_5, .long j_0, .int i_6, .int i_7, .int i_8, .int i_9, .ref a_6, .ref a_7, .ref a_8, .ref a_9, .ref a_10, .ref a_11, .ref a_12, .ref a_13, .ref a_14, .ref a_15, .ref a_16, .ref a_17, .ref a_18, .int i_10, .int i_11, .int i_12, .int i_13, .int i_14, .int i_15, .ref a_19, .int i_16, .ref a_20])), (a_6, .inl (cy 1, 5, .inl (mm_g [i_20, i_18, i_19, i_20, i_21]))), (a_7, .inl (cy 1, 30, .inl (mm_g [i_40, i_41, i_42, i_43, i_44, i_45, i_28, i_29, i_30, i_31, i_32, i_33, i_34, i_35, i_36, i_37, i_38, i_39, i_40, i_41, i_42, i_43, i_44, i_45, i_46, i_47, i_48, i_49, i_50, i_51]))), (a_8, .inl (cy 1, 90, .inl n1)), (a_9, .inl (cy 1, 15, .inl n4)), (a_10, .inl (cy 1, 1050, .inl f_2)), (a_11, .inl (cy 1, 30, .inl f_3)), (a_12, .inl (cy 1, 240, .inl f_4)), (a_13, .inl (cy 1, 450, .inl f_5))] H) (hD : va_D A [(a_0, .inr (12, [.int i_0, .ref a_1, .ref a_2, .ref a_3, .ref a_4, .ref a_5, .int i_1, .int i_2, .int i_3, .int i_4, .int i_5, .long j_0, .int i_6, .int i_7, .int i_8, .int i_9, .ref a_6, .ref a_7, .ref a_8, .ref a_9, .ref a_10, .ref a_11, .ref a_12, .ref a_13, .ref a_14, .ref a_15, .ref a_16, .ref a_17, .ref a_18, .int i_10, .int i_11, .int i_12, .int i_13, .int i_14, .int i_15, .ref a_19, .int i_16, .ref a_20])), (a_6, .inl (cy 1, 5, .inl (mm_g [i_20, i_18, i_19, i_20, i_21]))), (a_7, .inl (cy 1, 30, .inl (mm_g [i_40, i_41, i_42, i_43, i_44, i_45, i_28, i_29, i_30, i_31, i_32, i_33, i_34, i_35, i_36, i_37, i_38, i_39, i_40, i_41, i_42, i_43, i_44, i_45, i_46, i_47, i_48, i_49, i_50, i_51]))), (a_8, .inl (cy 1, 90, .inl n1)), (a_9, .inl (cy 1, 15, .inl n4)), (a_10, .inl (cy 1, 1050, .inl f_2)), (a_11, .inl (cy 1, 30, .inl f_3)), (a_12, .inl (cy 1, 240, .inl f_4)), (a_13, .inl (cy 1, 450, .inl f_5))]) hS
  obtain ⟨w5, w6⟩ := hw
  refine lv_aload_n hx hb dX12_copyBook_42 rfl (lv_at hl 0 rfl) ?_
  refine va_get (D := G) (ci := 12) (v := .ref a_10) (C := RX12) (T := TX12) (N := 38) hx hb hts (mm_i inlX12) hown hK.1 hP 0 rfl rfl 20 (by decide) (mm_h hts mm_w152) (fun _ h9 => h9) rfl dX12_copyBook_43 ?_
  refine lv_sipush (v := 210) hx hb dX12_copyBook_46 (by decide) ?_
  refine lv_iload_n hx hb dX12_copyBook_49 rfl (lv_at hl 1 rfl) ?_
  refine lv_iload_n hx hb dX12_copyBook_50 rfl (lv_at hl 2 rfl) ?_
  refine mm_finv (va_runS (As := [.ref a_10, .int 210, .int 3, .int 0]) (rest := []) ⟨hx, hb, hml, hown, hts⟩ (M373_X12_copyRow l G cy H.size a_10 f_2 h37) (va_cwS 4 hts (mm_gS mm_w557 mm_w558 mm_w5 mm_w559) rfl rfl rfl hs_X12_copyRow ⟨by rw [hRf]; exact Nat.le_of_ble_eq_true rfl, by rw [hRl]; exact Nat.le_of_ble_eq_true rfl⟩) (mm_preS hK hZ hS hA hP hD [5] rfl rfl) rfl rfl hl.1 rfl (lv_room (Nat.le_of_ble_eq_true rfl)) dX12_copyBook_51 ⟨by rw [hRc]; exact Nat.le_of_ble_eq_true rfl, by rw [hRs]; exact Nat.le_of_ble_eq_true rfl⟩) hP hD hS hA (fun u : (Nat → Int32) => [(a_0, .inr (12, [.int i_0, .ref a_1, .ref a_2, .ref a_3, .ref a_4, .ref a_5, .int i_1, .int i_2, .int i_3, .int i_4, .int i_5, .long j_0, .int i_6, .int i_7, .int i_8, .int i_9, .ref a_6, .ref a_7, .ref a_8, .ref a_9, .ref a_10, .ref a_11, .ref a_12, .ref a_13, .ref a_14, .ref a_15, .ref a_16, .ref a_17, .ref a_18, .int i_10, .int i_11, .int i_12, .int i_13, .int i_14, .int i_15, .ref a_19, .int i_16, .ref a_20])), (a_6, .inl (cy 1, 5, .inl (mm_g [i_20, i_18, i_19, i_20, i_21]))), (a_7, .inl (cy 1, 30, .inl (mm_g [i_40, i_41, i_42, i_43, i_44, i_45, i_28, i_29, i_30, i_31, i_32, i_33, i_34, i_35, i_36, i_37, i_38, i_39, i_40, i_41, i_42, i_43, i_44, i_45, i_46, i_47, i_48, i_49, i_50, i_51]))), (a_8, .inl (cy 1, 90, .inl n1)), (a_9, .inl (cy 1, 15, .inl n4)), (a_10, .inl (cy 1, 1050, .inl u)), (a_11, .inl (cy 1, 30, .inl f_3)), (a_12, .inl (cy 1, 240, .inl f_4)), (a_13, .inl (cy 1, 450, .inl f_5))]) [5] [0, 1, 2, 3, 4, 6, 7, 8] (n := 9) (fun _ => rfl) (by decide +kernel) (by decide +kernel) rfl (fun _ => rfl) (wr := [(a_0, .inr (12, [.int i_0, .ref a_1, .ref a_2, .ref a_3, .ref a_4, .ref a_5, .int i_1, .int i_2, .int i_3, .int i_4, .int i_5, .long j_0, .int i_6, .int i_7, .int i_8, .int i_9, .ref a_6, .ref a_7, .ref a_8, .ref a_9, .ref a_10, .ref a_11, .ref a_12, .ref a_13, .ref a_14, .ref a_15, .ref a_16, .ref a_17, .ref a_18, .int i_10, .int i_11, .int i_12, .int i_13, .int i_14, .int i_15, .ref a_19, .int i_16, .ref a_20])), (a_6, .inl (cy 1, 5, .inl (mm_g [i_20, i_18, i_19, i_20, i_21]))), (a_7, .inl (cy 1, 30, .inl (mm_g [i_40, i_41, i_42, i_43, i_44, i_45, i_28, i_29, i_30, i_31, i_32, i_33, i_34, i_35, i_36, i_37, i_38, i_39, i_40, i_41, i_42, i_43, i_44, i_45, i_46, i_47, i_48, i_49, i_50, i_51]))), (a_8, .inl (cy 1, 90, .inl n1)), (a_9, .inl (cy 1, 15, .inl n4)), (a_11, .inl (cy 1, 30, .inl f_3)), (a_12, .inl (cy 1, 240, .inl f_4)), (a_13, .inl (cy 1, 450, .inl f_5))]) rfl (fun _ => rfl) (fun _ => rfl) ?_
  clear hP hD hS
  clear H locs
  intro n7 H locs hw (hP : va_P G vwCl [(a_0, .inr (12, [.int i_0, .ref a_1, .ref a_2, .ref a_3, .ref a_4, .ref a_5, .int i_1, .int i_2, .int i_3, .int i_4, .int i_5, .long j_0, .int i_6, .int i_7, .int i_8, .int i_9, .ref a_6, .ref a_7, .ref a_8, .ref a_9, .ref a_10, .ref a_11, .ref a_12, .ref a_13, .ref a_14, .ref a_15, .ref a_16, .ref a_17, .ref a_18, .int i_10, .int i_11, .int i_12, .int i_13, .int i_14, .int i_15, .ref a_19, .int i_16, .ref a_20])), (a_6, .inl (cy 1, 5, .inl (mm_g [i_20, i_18, i_19, i_20, i_21]))), (a_7, .inl (cy 1, 30, .inl (mm_g [i_40, i_41, i_42, i_43, i_44, i_45, i_28, i_29, i_30, i_31, i_32, i_33, i_34, i_35, i_36, i_37, i_38, i_39, i_40, i_41, i_42, i_43, i_44, i_45, i_46, i_47, i_48, i_49, i_50, i_51]))), (a_8, .inl (cy 1, 90, .inl n1)), (a_9, .inl (cy 1, 15, .inl n4)), (a_10, .inl (cy 1, 1050, .inl n7)), (a_11, .inl (cy 1, 30, .inl f_3)), (a_12, .inl (cy 1, 240, .inl f_4)), (a_13, .inl (cy 1, 450, .inl f_5))] H) (hD : va_D A [(a_0, .inr (12, [.int i_0, .ref a_1, .ref a_2, .ref a_3, .ref a_4, .ref a_5, .int i_1, .int i_2, .int i_3, .int i_4, .int i_5, .long j_0, .int i_6, .int i_7, .int i_8, .int i_9, .ref a_6, .ref a_7, .ref a_8, .ref a_9, .ref a_10, .ref a_11, .ref a_12, .ref a_13, .ref a_14, .ref a_15, .ref a_16, .ref a_17, .ref a_18, .int i_10, .int i_11, .int i_12, .int i_13, .int i_14, .int i_15, .ref a_19, .int i_16, .ref a_20])), (a_6, .inl (cy 1, 5, .inl (mm_g [i_20, i_18, i_19, i_20, i_21]))), (a_7, .inl (cy 1, 30, .inl (mm_g [i_40, i_41, i_42, i_43, i_44, i_45, i_28, i_29, i_30, i_31, i_32, i_33, i_34, i_35, i_36, i_37, i_38, i_39, i_40, i_41, i_42, i_43, i_44, i_45, i_46, i_47, i_48, i_49, i_50, i_51]))), (a_8, .inl (cy 1, 90, .inl n1)), (a_9, .inl (cy 1, 15, .inl n4)), (a_10, .inl (cy 1, 1050, .inl n7)), (a_11, .inl (cy 1, 30, .inl f_3)), (a_12, .inl (cy 1, 240, .inl f_4)), (a_13, .inl (cy 1, 450, .inl f_5))]) hS
  obtain ⟨w8, w9⟩ := hw
  refine lv_aload_n hx hb dX12_copyBook_54 rfl (lv_at hl 0 rfl) ?_
  refine va_get (D := G) (ci := 12) (v := .ref a_11) (C := RX12) (T := TX12) (N := 38) hx hb hts (mm_i inlX12) hown hK.1 hP 0 rfl rfl 21 (by decide) (mm_h hts mm_w153) (fun _ h9 => h9) rfl dX12_copyBook_55 ?_
  refine lv_bipush (v := 6) hx hb dX12_copyBook_58 (by decide) ?_
  refine lv_iload_n hx hb dX12_copyBook_60 rfl (lv_at hl 1 rfl) ?_
  refine lv_iload_n hx hb dX12_copyBook_61 rfl (lv_at hl 2 rfl) ?_
  refine mm_finv (va_runS (As := [.ref a_11, .int 6, .int 3, .int 0]) (rest := []) ⟨hx, hb, hml, hown, hts⟩ (M374_X12_copyRow l G cy H.size a_11 f_3 h38) (va_cwS 4 hts (mm_gS mm_w557 mm_w558 mm_w5 mm_w559) rfl rfl rfl hs_X12_copyRow ⟨by rw [hRf]; exact Nat.le_of_ble_eq_true rfl, by rw [hRl]; exact Nat.le_of_ble_eq_true rfl⟩) (mm_preS hK hZ hS hA hP hD [6] rfl rfl) rfl rfl hl.1 rfl (lv_room (Nat.le_of_ble_eq_true rfl)) dX12_copyBook_62 ⟨by rw [hRc]; exact Nat.le_of_ble_eq_true rfl, by rw [hRs]; exact Nat.le_of_ble_eq_true rfl⟩) hP hD hS hA (fun u : (Nat → Int32) => [(a_0, .inr (12, [.int i_0, .ref a_1, .ref a_2, .ref a_3, .ref a_4, .ref a_5, .int i_1, .int i_2, .int i_3, .int i_4, .int i_5, .long j_0, .int i_6, .int i_7, .int i_8, .int i_9, .ref a_6, .ref a_7, .ref a_8, .ref a_9, .ref a_10, .ref a_11, .ref a_12, .ref a_13, .ref a_14, .ref a_15, .ref a_16, .ref a_17, .ref a_18, .int i_10, .int i_11, .int i_12, .int i_13, .int i_14, .int i_15, .ref a_19, .int i_16, .ref a_20])), (a_6, .inl (cy 1, 5, .inl (mm_g [i_20, i_18, i_19, i_20, i_21]))), (a_7, .inl (cy 1, 30, .inl (mm_g [i_40, i_41, i_42, i_43, i_44, i_45, i_28, i_29, i_30, i_31, i_32, i_33, i_34, i_35, i_36, i_37, i_38, i_39, i_40, i_41, i_42, i_43, i_44, i_45, i_46, i_47, i_48, i_49, i_50, i_51]))), (a_8, .inl (cy 1, 90, .inl n1)), (a_9, .inl (cy 1, 15, .inl n4)), (a_10, .inl (cy 1, 1050, .inl n7)), (a_11, .inl (cy 1, 30, .inl u)), (a_12, .inl (cy 1, 240, .inl f_4)), (a_13, .inl (cy 1, 450, .inl f_5))]) [6] [0, 1, 2, 3, 4, 5, 7, 8] (n := 9) (fun _ => rfl) (by decide +kernel) (by decide +kernel) rfl (fun _ => rfl) (wr := [(a_0, .inr (12, [.int i_0, .ref a_1, .ref a_2, .ref a_3, .ref a_4, .ref a_5, .int i_1, .int i_2, .int i_3, .int i_4, .int i_5, .long j_0, .int i_6, .int i_7, .int i_8, .int i_9, .ref a_6, .ref a_7, .ref a_8, .ref a_9, .ref a_10, .ref a_11, .ref a_12, .ref a_13, .ref a_14, .ref a_15, .ref a_16, .ref a_17, .ref a_18, .int i_10, .int i_11, .int i_12, .int i_13, .int i_14, .int i_15, .ref a_19, .int i_16, .ref a_20])), (a_6, .inl (cy 1, 5, .inl (mm_g [i_20, i_18, i_19, i_20, i_21]))), (a_7, .inl (cy 1, 30, .inl (mm_g [i_40, i_41, i_42, i_43, i_44, i_45, i_28, i_29, i_30, i_31, i_32, i_33, i_34, i_35, i_36, i_37, i_38, i_39, i_40, i_41, i_42, i_43, i_44, i_45, i_46, i_47, i_48, i_49, i_50, i_51]))), (a_8, .inl (cy 1, 90, .inl n1)), (a_9, .inl (cy 1, 15, .inl n4)), (a_10, .inl (cy 1, 1050, .inl n7)), (a_12, .inl (cy 1, 240, .inl f_4)), (a_13, .inl (cy 1, 450, .inl f_5))]) rfl (fun _ => rfl) (fun _ => rfl) ?_
  clear hP hD hS
  clear H locs
  intro n10 H locs hw (hP : va_P G vwCl [(a_0, .inr (12, [.int i_0, .ref a_1, .ref a_2, .ref a_3, .ref a_4, .ref a_5, .int i_1, .int i_2, .int i_3, .int i_4, .int i_5, .long j_0, .int i_6, .int i_7, .int i_8, .int i_9, .ref a_6, .ref a_7, .ref a_8, .ref a_9, .ref a_10, .ref a_11, .ref a_12, .ref a_13, .ref a_14, .ref a_15, .ref a_16, .ref a_17, .ref a_18, .int i_10, .int i_11, .int i_12, .int i_13, .int i_14, .int i_15, .ref a_19, .int i_16, .ref a_20])), (a_6, .inl (cy 1, 5, .inl (mm_g [i_20, i_18, i_19, i_20, i_21]))), (a_7, .inl (cy 1, 30, .inl (mm_g [i_40, i_41, i_42, i_43, i_44, i_45, i_28, i_29, i_30, i_31, i_32, i_33, i_34, i_35, i_36, i_37, i_38, i_39, i_40, i_41, i_42, i_43, i_44, i_45, i_46, i_47, i_48, i_49, i_50, i_51]))), (a_8, .inl (cy 1, 90, .inl n1)), (a_9, .inl (cy 1, 15, .inl n4)), (a_10, .inl (cy 1, 1050, .inl n7)), (a_11, .inl (cy 1, 30, .inl n10)), (a_12, .inl (cy 1, 240, .inl f_4)), (a_13, .inl (cy 1, 450, .inl f_5))] H) (hD : va_D A [(a_0, .inr (12, [.int i_0, .ref a_1, .ref a_2, .ref a_3, .ref a_4, .ref a_5, .int i_1, .int i_2, .int i_3, .int i_4, .int i_5, .long j_0, .int i_6, .int i_7, .int i_8, .int i_9, .ref a_6, .ref a_7, .ref a_8, .ref a_9, .ref a_10, .ref a_11, .ref a_12, .ref a_13, .ref a_14, .ref a_15, .ref a_16, .ref a_17, .ref a_18, .int i_10, .int i_11, .int i_12, .int i_13, .int i_14, .int i_15, .ref a_19, .int i_16, .ref a_20])), (a_6, .inl (cy 1, 5, .inl (mm_g [i_20, i_18, i_19, i_20, i_21]))), (a_7, .inl (cy 1, 30, .inl (mm_g [i_40, i_41, i_42, i_43, i_44, i_45, i_28, i_29, i_30, i_31, i_32, i_33, i_34, i_35, i_36, i_37, i_38, i_39, i_40, i_41, i_42, i_43, i_44, i_45, i_46, i_47, i_48, i_49, i_50, i_51]))), (a_8, .inl (cy 1, 90, .inl n1)), (a_9, .inl (cy 1, 15, .inl n4)), (a_10, .inl (cy 1, 1050, .inl n7)), (a_11, .inl (cy 1, 30, .inl n10)), (a_12, .inl (cy 1, 240, .inl f_4)), (a_13, .inl (cy 1, 450, .inl f_5))]) hS
  obtain ⟨w11, w12⟩ := hw
  refine lv_aload_n hx hb dX12_copyBook_65 rfl (lv_at hl 0 rfl) ?_
  refine va_get (D := G) (ci := 12) (v := .ref a_12) (C := RX12) (T := TX12) (N := 38) hx hb hts (mm_i inlX12) hown hK.1 hP 0 rfl rfl 22 (by decide) (mm_h hts mm_w154) (fun _ h9 => h9) rfl dX12_copyBook_66 ?_
  refine lv_bipush (v := 48) hx hb dX12_copyBook_69 (by decide) ?_
  refine lv_iload_n hx hb dX12_copyBook_71 rfl (lv_at hl 1 rfl) ?_
  refine lv_iload_n hx hb dX12_copyBook_72 rfl (lv_at hl 2 rfl) ?_
  refine mm_finv (va_runS (As := [.ref a_12, .int 48, .int 3, .int 0]) (rest := []) ⟨hx, hb, hml, hown, hts⟩ (M375_X12_copyRow l G cy H.size a_12 f_4 h39) (va_cwS 4 hts (mm_gS mm_w557 mm_w558 mm_w5 mm_w559) rfl rfl rfl hs_X12_copyRow ⟨by rw [hRf]; exact Nat.le_of_ble_eq_true rfl, by rw [hRl]; exact Nat.le_of_ble_eq_true rfl⟩) (mm_preS hK hZ hS hA hP hD [7] rfl rfl) rfl rfl hl.1 rfl (lv_room (Nat.le_of_ble_eq_true rfl)) dX12_copyBook_73 ⟨by rw [hRc]; exact Nat.le_of_ble_eq_true rfl, by rw [hRs]; exact Nat.le_of_ble_eq_true rfl⟩) hP hD hS hA (fun u : (Nat → Int32) => [(a_0, .inr (12, [.int i_0, .ref a_1, .ref a_2, .ref a_3, .ref a_4, .ref a_5, .int i_1, .int i_2, .int i_3, .int i_4, .int i_5, .long j_0, .int i_6, .int i_7, .int i_8, .int i_9, .ref a_6, .ref a_7, .ref a_8, .ref a_9, .ref a_10, .ref a_11, .ref a_12, .ref a_13, .ref a_14, .ref a_15, .ref a_16, .ref a_17, .ref a_18, .int i_10, .int i_11, .int i_12, .int i_13, .int i_14, .int i_15, .ref a_19, .int i_16, .ref a_20])), (a_6, .inl (cy 1, 5, .inl (mm_g [i_20, i_18, i_19, i_20, i_21]))), (a_7, .inl (cy 1, 30, .inl (mm_g [i_40, i_41, i_42, i_43, i_44, i_45, i_28, i_29, i_30, i_31, i_32, i_33, i_34, i_35, i_36, i_37, i_38, i_39, i_40, i_41, i_42, i_43, i_44, i_45, i_46, i_47, i_48, i_49, i_50, i_51]))), (a_8, .inl (cy 1, 90, .inl n1)), (a_9, .inl (cy 1, 15, .inl n4)), (a_10, .inl (cy 1, 1050, .inl n7)), (a_11, .inl (cy 1, 30, .inl n10)), (a_12, .inl (cy 1, 240, .inl u)), (a_13, .inl (cy 1, 450, .inl f_5))]) [7] [0, 1, 2, 3, 4, 5, 6, 8] (n := 9) (fun _ => rfl) (by decide +kernel) (by decide +kernel) rfl (fun _ => rfl) (wr := [(a_0, .inr (12, [.int i_0, .ref a_1, .ref a_2, .ref a_3, .ref a_4, .ref a_5, .int i_1, .int i_2, .int i_3, .int i_4, .int i_5, .long j_0, .int i_6, .int i_7, .int i_8, .int i_9, .ref a_6, .ref a_7, .ref a_8, .ref a_9, .ref a_10, .ref a_11, .ref a_12, .ref a_13, .ref a_14, .ref a_15, .ref a_16, .ref a_17, .ref a_18, .int i_10, .int i_11, .int i_12, .int i_13, .int i_14, .int i_15, .ref a_19, .int i_16, .ref a_20])), (a_6, .inl (cy 1, 5, .inl (mm_g [i_20, i_18, i_19, i_20, i_21]))), (a_7, .inl (cy 1, 30, .inl (mm_g [i_40, i_41, i_42, i_43, i_44, i_45, i_28, i_29, i_30, i_31, i_32, i_33, i_34, i_35, i_36, i_37, i_38, i_39, i_40, i_41, i_42, i_43, i_44, i_45, i_46, i_47, i_48, i_49, i_50, i_51]))), (a_8, .inl (cy 1, 90, .inl n1)), (a_9, .inl (cy 1, 15, .inl n4)), (a_10, .inl (cy 1, 1050, .inl n7)), (a_11, .inl (cy 1, 30, .inl n10)), (a_13, .inl (cy 1, 450, .inl f_5))]) rfl (fun _ => rfl) (fun _ => rfl) ?_
  clear hP hD hS
  clear H locs
  intro n13 H locs hw (hP : va_P G vwCl [(a_0, .inr (12, [.int i_0, .ref a_1, .ref a_2, .ref a_3, .ref a_4, .ref a_5, .int i_1, .int i_2, .int i_3, .int i_4, .int i_5, .long j_0, .int i_6, .int i_7, .int i_8, .int i_9, .ref a_6, .ref a_7, .ref a_8, .ref a_9, .ref a_10, .ref a_11, .ref a_12, .ref a_13, .ref a_14, .ref a_15, .ref a_16, .ref a_17, .ref a_18, .int i_10, .int i_11, .int i_12, .int i_13, .int i_14, .int i_15, .ref a_19, .int i_16, .ref a_20])), (a_6, .inl (cy 1, 5, .inl (mm_g [i_20, i_18, i_19, i_20, i_21]))), (a_7, .inl (cy 1, 30, .inl (mm_g [i_40, i_41, i_42, i_43, i_44, i_45, i_28, i_29, i_30, i_31, i_32, i_33, i_34, i_35, i_36, i_37, i_38, i_39, i_40, i_41, i_42, i_43, i_44, i_45, i_46, i_47, i_48, i_49, i_50, i_51]))), (a_8, .inl (cy 1, 90, .inl n1)), (a_9, .inl (cy 1, 15, .inl n4)), (a_10, .inl (cy 1, 1050, .inl n7)), (a_11, .inl (cy 1, 30, .inl n10)), (a_12, .inl (cy 1, 240, .inl n13)), (a_13, .inl (cy 1, 450, .inl f_5))] H) (hD : va_D A [(a_0, .inr (12, [.int i_0, .ref a_1, .ref a_2, .ref a_3, .ref a_4, .ref a_5, .int i_1, .int i_2, .int i_3, .int i_4, .int i_5, .long j_0, .int i_6, .int i_7, .int i_8, .int i_9, .ref a_6, .ref a_7, .ref a_8, .ref a_9, .ref a_10, .ref a_11, .ref a_12, .ref a_13, .ref a_14, .ref a_15, .ref a_16, .ref a_17, .ref a_18, .int i_10, .int i_11, .int i_12, .int i_13, .int i_14, .int i_15, .ref a_19, .int i_16, .ref a_20])), (a_6, .inl (cy 1, 5, .inl (mm_g [i_20, i_18, i_19, i_20, i_21]))), (a_7, .inl (cy 1, 30, .inl (mm_g [i_40, i_41, i_42, i_43, i_44, i_45, i_28, i_29, i_30, i_31, i_32, i_33, i_34, i_35, i_36, i_37, i_38, i_39, i_40, i_41, i_42, i_43, i_44, i_45, i_46, i_47, i_48, i_49, i_50, i_51]))), (a_8, .inl (cy 1, 90, .inl n1)), (a_9, .inl (cy 1, 15, .inl n4)), (a_10, .inl (cy 1, 1050, .inl n7)), (a_11, .inl (cy 1, 30, .inl n10)), (a_12, .inl (cy 1, 240, .inl n13)), (a_13, .inl (cy 1, 450, .inl f_5))]) hS
  obtain ⟨w14, w15⟩ := hw
  refine lv_aload_n hx hb dX12_copyBook_76 rfl (lv_at hl 0 rfl) ?_
  refine va_get (D := G) (ci := 12) (v := .ref a_13) (C := RX12) (T := TX12) (N := 38) hx hb hts (mm_i inlX12) hown hK.1 hP 0 rfl rfl 23 (by decide) (mm_h hts mm_w155) (fun _ h9 => h9) rfl dX12_copyBook_77 ?_
  refine lv_bipush (v := 90) hx hb dX12_copyBook_80 (by decide) ?_
  refine lv_iload_n hx hb dX12_copyBook_82 rfl (lv_at hl 1 rfl) ?_
  refine lv_iload_n hx hb dX12_copyBook_83 rfl (lv_at hl 2 rfl) ?_
  refine mm_finv (va_runS (As := [.ref a_13, .int 90, .int 3, .int 0]) (rest := []) ⟨hx, hb, hml, hown, hts⟩ (M376_X12_copyRow l G cy H.size a_13 f_5 h40) (va_cwS 4 hts (mm_gS mm_w557 mm_w558 mm_w5 mm_w559) rfl rfl rfl hs_X12_copyRow ⟨by rw [hRf]; exact Nat.le_of_ble_eq_true rfl, by rw [hRl]; exact Nat.le_of_ble_eq_true rfl⟩) (mm_preS hK hZ hS hA hP hD [8] rfl rfl) rfl rfl hl.1 rfl (lv_room (Nat.le_of_ble_eq_true rfl)) dX12_copyBook_84 ⟨by rw [hRc]; exact Nat.le_of_ble_eq_true rfl, by rw [hRs]; exact Nat.le_of_ble_eq_true rfl⟩) hP hD hS hA (fun u : (Nat → Int32) => [(a_0, .inr (12, [.int i_0, .ref a_1, .ref a_2, .ref a_3, .ref a_4, .ref a_5, .int i_1, .int i_2, .int i_3, .int i_4, .int i_5, .long j_0, .int i_6, .int i_7, .int i_8, .int i_9, .ref a_6, .ref a_7, .ref a_8, .ref a_9, .ref a_10, .ref a_11, .ref a_12, .ref a_13, .ref a_14, .ref a_15, .ref a_16, .ref a_17, .ref a_18, .int i_10, .int i_11, .int i_12, .int i_13, .int i_14, .int i_15, .ref a_19, .int i_16, .ref a_20])), (a_6, .inl (cy 1, 5, .inl (mm_g [i_20, i_18, i_19, i_20, i_21]))), (a_7, .inl (cy 1, 30, .inl (mm_g [i_40, i_41, i_42, i_43, i_44, i_45, i_28, i_29, i_30, i_31, i_32, i_33, i_34, i_35, i_36, i_37, i_38, i_39, i_40, i_41, i_42, i_43, i_44, i_45, i_46, i_47, i_48, i_49, i_50, i_51]))), (a_8, .inl (cy 1, 90, .inl n1)), (a_9, .inl (cy 1, 15, .inl n4)), (a_10, .inl (cy 1, 1050, .inl n7)), (a_11, .inl (cy 1, 30, .inl n10)), (a_12, .inl (cy 1, 240, .inl n13)), (a_13, .inl (cy 1, 450, .inl u))]) [8] [0, 1, 2, 3, 4, 5, 6, 7] (n := 9) (fun _ => rfl) (by decide +kernel) (by decide +kernel) rfl (fun _ => rfl) (wr := [(a_0, .inr (12, [.int i_0, .ref a_1, .ref a_2, .ref a_3, .ref a_4, .ref a_5, .int i_1, .int i_2, .int i_3, .int i_4, .int i_5, .long j_0, .int i_6, .int i_7, .int i_8, .int i_9, .ref a_6, .ref a_7, .ref a_8, .ref a_9, .ref a_10, .ref a_11, .ref a_12, .ref a_13, .ref a_14, .ref a_15, .ref a_16, .ref a_17, .ref a_18, .int i_10, .int i_11, .int i_12, .int i_13, .int i_14, .int i_15, .ref a_19, .int i_16, .ref a_20])), (a_6, .inl (cy 1, 5, .inl (mm_g [i_20, i_18, i_19, i_20, i_21]))), (a_7, .inl (cy 1, 30, .inl (mm_g [i_40, i_41, i_42, i_43, i_44, i_45, i_28, i_29, i_30, i_31, i_32, i_33, i_34, i_35, i_36, i_37, i_38, i_39, i_40, i_41, i_42, i_43, i_44, i_45, i_46, i_47, i_48, i_49, i_50, i_51]))), (a_8, .inl (cy 1, 90, .inl n1)), (a_9, .inl (cy 1, 15, .inl n4)), (a_10, .inl (cy 1, 1050, .inl n7)), (a_11, .inl (cy 1, 30, .inl n10)), (a_12, .inl (cy 1, 240, .inl n13))]) rfl (fun _ => rfl) (fun _ => rfl) ?_
  clear hP hD hS
  clear H locs
  intro n16 H locs hw (hP : va_P G vwCl [(a_0, .inr (12, [.int i_0, .ref a_1, .ref a_2, .ref a_3, .ref a_4, .ref a_5, .int i_1, .int i_2, .int i_3, .int i_4, .int i_5, .long j_0, .int i_6, .int i_7, .int i_8, .int i_9, .ref a_6, .ref a_7, .ref a_8, .ref a_9, .ref a_10, .ref a_11, .ref a_12, .ref a_13, .ref a_14, .ref a_15, .ref a_16, .ref a_17, .ref a_18, .int i_10, .int i_11, .int i_12, .int i_13, .int i_14, .int i_15, .ref a_19, .int i_16, .ref a_20])), (a_6, .inl (cy 1, 5, .inl (mm_g [i_20, i_18, i_19, i_20, i_21]))), (a_7, .inl (cy 1, 30, .inl (mm_g [i_40, i_41, i_42, i_43, i_44, i_45, i_28, i_29, i_30, i_31, i_32, i_33, i_34, i_35, i_36, i_37, i_38, i_39, i_40, i_41, i_42, i_43, i_44, i_45, i_46, i_47, i_48, i_49, i_50, i_51]))), (a_8, .inl (cy 1, 90, .inl n1)), (a_9, .inl (cy 1, 15, .inl n4)), (a_10, .inl (cy 1, 1050, .inl n7)), (a_11, .inl (cy 1, 30, .inl n10)), (a_12, .inl (cy 1, 240, .inl n13)), (a_13, .inl (cy 1, 450, .inl n16))] H) (hD : va_D A [(a_0, .inr (12, [.int i_0, .ref a_1, .ref a_2, .ref a_3, .ref a_4, .ref a_5, .int i_1, .int i_2, .int i_3, .int i_4, .int i_5, .long j_0, .int i_6, .int i_7, .int i_8, .int i_9, .ref a_6, .ref a_7, .ref a_8, .ref a_9, .ref a_10, .ref a_11, .ref a_12, .ref a_13, .ref a_14, .ref a_15, .ref a_16, .ref a_17, .ref a_18, .int i_10, .int i_11, .int i_12, .int i_13, .int i_14, .int i_15, .ref a_19, .int i_16, .ref a_20])), (a_6, .inl (cy 1, 5, .inl (mm_g [i_20, i_18, i_19, i_20, i_21]))), (a_7, .inl (cy 1, 30, .inl (mm_g [i_40, i_41, i_42, i_43, i_44, i_45, i_28, i_29, i_30, i_31, i_32, i_33, i_34, i_35, i_36, i_37, i_38, i_39, i_40, i_41, i_42, i_43, i_44, i_45, i_46, i_47, i_48, i_49, i_50, i_51]))), (a_8, .inl (cy 1, 90, .inl n1)), (a_9, .inl (cy 1, 15, .inl n4)), (a_10, .inl (cy 1, 1050, .inl n7)), (a_11, .inl (cy 1, 30, .inl n10)), (a_12, .inl (cy 1, 240, .inl n13)), (a_13, .inl (cy 1, 450, .inl n16))]) hS
  obtain ⟨w17, w18⟩ := hw
  have w19 : mm_rls n4 n7 0 i_42 i_43 := (mm_rls_cp h53 w6 w9)
  have w20 : mm_txs n10 n13 0 i_42 i_44 := (mm_txs_cp h54 w12 w15)
  have w21 : mm_acs n16 0 i_42 i_43 i_45 := (mm_acs_cp h55 w18)
  have w22 : mm_rls n4 n7 1 i_30 i_31 := (mm_rls_ck h45 w6 w9 (by decide))
  have w23 : mm_txs n10 n13 1 i_30 i_32 := (mm_txs_ck h46 w12 w15 (by decide))
  have w24 : mm_acs n16 1 i_30 i_31 i_33 := (mm_acs_ck h47 w18 (by decide))
  have w25 : mm_rls n4 n7 2 i_36 i_37 := (mm_rls_ck h49 w6 w9 (by decide))
  have w26 : mm_txs n10 n13 2 i_36 i_38 := (mm_txs_ck h50 w12 w15 (by decide))
  have w27 : mm_acs n16 2 i_36 i_37 i_39 := (mm_acs_ck h51 w18 (by decide))
  have w28 : mm_rls n4 n7 3 i_42 i_43 := (mm_rls_ck h53 w6 w9 (by decide))
  have w29 : mm_txs n10 n13 3 i_42 i_44 := (mm_txs_ck h54 w12 w15 (by decide))
  have w30 : mm_acs n16 3 i_42 i_43 i_45 := (mm_acs_ck h55 w18 (by decide))
  subst hAe
  rw [hQ]
  exact W.vret hx hb hr (fun t ht hW => ⟨⟨(n1, n4, n7, n10, n13, n16), rfl, ⟨w2, w5, w8, w11, w14, w17, w19, w20, w21, w22, w23, w24, w25, w26, w27, w28, w29, w30⟩, by rw [ht]; exact hP, hK.warm hW, hD⟩, hS.F ht⟩) hS.2.2 dX12_copyBook_87

set_option maxHeartbeats 4000000 in
set_option maxRecDepth 100000 in
theorem M378_X12_back (l : Launch) (G : va_G) (cy : Nat → ClassId) (sz : Nat) (a_0 : Nat) (i_0 : Int32) (i_1 : Int32) (a_1 : Nat) (a_2 : Nat) (a_3 : Nat) (a_4 : Nat) (a_5 : Nat) (i_2 : Int32) (i_3 : Int32) (i_4 : Int32) (i_5 : Int32) (i_6 : Int32) (j_0 : Int64) (i_7 : Int32) (i_8 : Int32) (i_9 : Int32) (i_10 : Int32) (a_6 : Nat) (a_7 : Nat) (a_8 : Nat) (a_9 : Nat) (a_10 : Nat) (a_11 : Nat) (a_12 : Nat) (a_13 : Nat) (a_14 : Nat) (a_15 : Nat) (a_16 : Nat) (a_17 : Nat) (a_18 : Nat) (i_11 : Int32) (i_12 : Int32) (i_13 : Int32) (i_14 : Int32) (i_15 : Int32) (i_16 : Int32) (a_19 : Nat) (i_17 : Int32) (a_20 : Nat) (i_18 : Int32) (i_19 : Int32) (i_20 : Int32) (i_21 : Int32) (i_22 : Int32) (i_23 : Int32) (i_24 : Int32) (i_25 : Int32) (i_26 : Int32) (i_27 : Int32) (i_28 : Int32) (i_29 : Int32) (i_30 : Int32) (i_31 : Int32) (i_32 : Int32) (i_33 : Int32) (i_34 : Int32) (i_35 : Int32) (i_36 : Int32) (i_37 : Int32) (i_38 : Int32) (i_39 : Int32) (i_40 : Int32) (i_41 : Int32) (i_42 : Int32) (i_43 : Int32) (i_44 : Int32) (i_45 : Int32) (i_46 : Int32) (i_47 : Int32) (i_48 : Int32) (i_49 : Int32) (i_50 : Int32) (i_51 : Int32) (i_52 : Int32) (f_0 : Nat → Int32) (f_1 : Nat → Int32) (f_2 : Nat → Int32) (f_3 : Nat → Int32) (f_4 : Nat → Int32) (f_5 : Nat → Int32) (f_6 : Nat → Int32) (h0 : mm_rg i_18 0 601) (h1 : mm_rg i_19 0 601) (h2 : mm_rg i_20 0 601) (h3 : mm_rg i_21 0 601) (h4 : mm_rg i_22 0 601) (h5 : mm_rg i_23 0 10) (h6 : mm_rg i_24 0 99) (h7 : mm_rg i_25 0 9) (h8 : mm_rg i_26 0 3) (h9 : mm_rg i_27 0 6) (h10 : mm_rg i_28 0 30) (h11 : mm_rg i_29 0 10) (h12 : mm_rg i_30 0 99) (h13 : mm_rg i_31 0 9) (h14 : mm_rg i_32 0 3) (h15 : mm_rg i_33 0 6) (h16 : mm_rg i_34 0 30) (h17 : mm_rg i_35 0 10) (h18 : mm_rg i_36 0 99) (h19 : mm_rg i_37 0 9) (h20 : mm_rg i_38 0 3) (h21 : mm_rg i_39 0 6) (h22 : mm_rg i_40 0 30) (h23 : mm_rg i_41 0 10) (h24 : mm_rg i_42 0 99) (h25 : mm_rg i_43 0 9) (h26 : mm_rg i_44 0 3) (h27 : mm_rg i_45 0 6) (h28 : mm_rg i_46 0 30) (h29 : mm_rg i_47 0 10) (h30 : mm_rg i_48 0 99) (h31 : mm_rg i_49 0 9) (h32 : mm_rg i_50 0 3) (h33 : mm_rg i_51 0 6) (h34 : mm_rg i_52 0 30) (h35 : mm_ar f_0 0 99) (h36 : mm_ar f_1 0 7) (h37 : mm_ar f_2 0 9) (h38 : mm_ar f_3 0 8) (h39 : mm_ar f_4 0 9) (h40 : mm_ar f_5 (-1) 99) (h41 : mm_ar f_6 0 1) (h42 : mm_rls f_1 f_2 0 i_25 i_26) (h43 : mm_txs f_3 f_4 0 i_25 i_27) (h44 : mm_acs f_5 0 i_25 i_26 i_28) (h45 : mm_tl i_18 i_26 i_27) (h46 : mm_rls f_1 f_2 1 i_31 i_32) (h47 : mm_txs f_3 f_4 1 i_31 i_33) (h48 : mm_acs f_5 1 i_31 i_32 i_34) (h49 : mm_tl i_19 i_32 i_33) (h50 : mm_rls f_1 f_2 2 i_37 i_38) (h51 : mm_txs f_3 f_4 2 i_37 i_39) (h52 : mm_acs f_5 2 i_37 i_38 i_40) (h53 : mm_tl i_20 i_38 i_39) (h54 : mm_rls f_1 f_2 3 i_43 i_44) (h55 : mm_txs f_3 f_4 3 i_43 i_45) (h56 : mm_acs f_5 3 i_43 i_44 i_46) (h57 : mm_tl i_21 i_44 i_45)  : mm_CI l yX12_back (mm_ws yX12_back cX12_back 2 (some .int)) ({ frames := 2, cells := 0, slots := 0, locals := 46 } : Room) G cy sz [(a_0, .inr (12, [.int i_1, .ref a_1, .ref a_2, .ref a_3, .ref a_4, .ref a_5, .int i_2, .int i_3, .int i_4, .int i_5, .int i_6, .long j_0, .int i_7, .int i_8, .int i_9, .int i_10, .ref a_6, .ref a_7, .ref a_8, .ref a_9, .ref a_10, .ref a_11, .ref a_12, .ref a_13, .ref a_14, .ref a_15, .ref a_16, .ref a_17, .ref a_18, .int i_11, .int i_12, .int i_13, .int i_14, .int i_15, .int i_16, .ref a_19, .int i_17, .ref a_20])), (a_6, .inl (cy 1, 5, .inl (mm_g [i_18, i_19, i_20, i_21, i_22]))), (a_7, .inl (cy 1, 30, .inl (mm_g [i_23, i_24, i_25, i_26, i_27, i_28, i_29, i_30, i_31, i_32, i_33, i_34, i_35, i_36, i_37, i_38, i_39, i_40, i_41, i_42, i_43, i_44, i_45, i_46, i_47, i_48, i_49, i_50, i_51, i_52]))), (a_8, .inl (cy 1, 90, .inl f_0)), (a_9, .inl (cy 1, 15, .inl f_1)), (a_10, .inl (cy 1, 1050, .inl f_2)), (a_11, .inl (cy 1, 30, .inl f_3)), (a_12, .inl (cy 1, 240, .inl f_4)), (a_13, .inl (cy 1, 450, .inl f_5)), (a_14, .inl (cy 3, 3, .inl f_6))] [.ref a_0, .int i_0] (fun u : Int32 × Int32 × Int32 × Int32 × Int32 × Int32 × Int32 × (Nat → Int32) × (Nat → Int32) × (Nat → Int32) × (Nat → Int32) × (Nat → Int32) × (Nat → Int32) => [(a_0, .inr (12, [.int 0, .ref a_1, .ref a_2, .ref a_3, .ref a_4, .ref a_5, .int i_2, .int i_3, .int i_4, .int i_5, .int i_6, .long j_0, .int i_7, .int i_8, .int i_9, .int i_10, .ref a_6, .ref a_7, .ref a_8, .ref a_9, .ref a_10, .ref a_11, .ref a_12, .ref a_13, .ref a_14, .ref a_15, .ref a_16, .ref a_17, .ref a_18, .int i_11, .int i_12, .int i_13, .int i_14, .int i_15, .int i_16, .ref a_19, .int i_17, .ref a_20])), (a_6, .inl (cy 1, 5, .inl (mm_g [u.1, i_19, i_20, i_21, i_22]))), (a_7, .inl (cy 1, 30, .inl (mm_g [u.2.1, u.2.2.1, u.2.2.2.1, u.2.2.2.2.1, u.2.2.2.2.2.1, u.2.2.2.2.2.2.1, i_29, i_30, i_31, i_32, i_33, i_34, i_35, i_36, i_37, i_38, i_39, i_40, i_41, i_42, i_43, i_44, i_45, i_46, i_47, i_48, i_49, i_50, i_51, i_52]))), (a_8, .inl (cy 1, 90, .inl u.2.2.2.2.2.2.2.1)), (a_9, .inl (cy 1, 15, .inl u.2.2.2.2.2.2.2.2.1)), (a_10, .inl (cy 1, 1050, .inl u.2.2.2.2.2.2.2.2.2.1)), (a_11, .inl (cy 1, 30, .inl u.2.2.2.2.2.2.2.2.2.2.1)), (a_12, .inl (cy 1, 240, .inl u.2.2.2.2.2.2.2.2.2.2.2.1)), (a_13, .inl (cy 1, 450, .inl u.2.2.2.2.2.2.2.2.2.2.2.2)), (a_14, .inl (cy 3, 3, .inl f_6))]) (fun (r : Int32) (u : Int32 × Int32 × Int32 × Int32 × Int32 × Int32 × Int32 × (Nat → Int32) × (Nat → Int32) × (Nat → Int32) × (Nat → Int32) × (Nat → Int32) × (Nat → Int32)) => mm_rg u.1 0 601 ∧ mm_rg u.2.1 0 10 ∧ mm_rg u.2.2.1 0 99 ∧ mm_rg u.2.2.2.1 0 9 ∧ mm_rg u.2.2.2.2.1 0 3 ∧ mm_rg u.2.2.2.2.2.1 0 6 ∧ mm_rg u.2.2.2.2.2.2.1 0 30 ∧ mm_ar u.2.2.2.2.2.2.2.1 0 99 ∧ mm_ar u.2.2.2.2.2.2.2.2.1 0 7 ∧ mm_ar u.2.2.2.2.2.2.2.2.2.1 0 9 ∧ mm_ar u.2.2.2.2.2.2.2.2.2.2.1 0 8 ∧ mm_ar u.2.2.2.2.2.2.2.2.2.2.2.1 0 9 ∧ mm_ar u.2.2.2.2.2.2.2.2.2.2.2.2 (-1) 99 ∧ mm_rls u.2.2.2.2.2.2.2.2.1 u.2.2.2.2.2.2.2.2.2.1 0 u.2.2.2.1 u.2.2.2.2.1 ∧ mm_txs u.2.2.2.2.2.2.2.2.2.2.1 u.2.2.2.2.2.2.2.2.2.2.2.1 0 u.2.2.2.1 u.2.2.2.2.2.1 ∧ mm_acs u.2.2.2.2.2.2.2.2.2.2.2.2 0 u.2.2.2.1 u.2.2.2.2.1 u.2.2.2.2.2.2.1 ∧ mm_tl u.1 u.2.2.2.2.1 u.2.2.2.2.2.1 ∧ mm_rls u.2.2.2.2.2.2.2.2.1 u.2.2.2.2.2.2.2.2.2.1 1 i_31 i_32 ∧ mm_txs u.2.2.2.2.2.2.2.2.2.2.1 u.2.2.2.2.2.2.2.2.2.2.2.1 1 i_31 i_33 ∧ mm_acs u.2.2.2.2.2.2.2.2.2.2.2.2 1 i_31 i_32 i_34 ∧ mm_rls u.2.2.2.2.2.2.2.2.1 u.2.2.2.2.2.2.2.2.2.1 2 i_37 i_38 ∧ mm_txs u.2.2.2.2.2.2.2.2.2.2.1 u.2.2.2.2.2.2.2.2.2.2.2.1 2 i_37 i_39 ∧ mm_acs u.2.2.2.2.2.2.2.2.2.2.2.2 2 i_37 i_38 i_40 ∧ mm_rls u.2.2.2.2.2.2.2.2.1 u.2.2.2.2.2.2.2.2.2.1 3 i_43 i_44 ∧ mm_txs u.2.2.2.2.2.2.2.2.2.2.1 u.2.2.2.2.2.2.2.2.2.2.2.1 3 i_43 i_45 ∧ mm_acs u.2.2.2.2.2.2.2.2.2.2.2.2 3 i_43 i_44 i_46 ∧ mm_rg r (-6) 0) 0 0 := by
  refine mm_begin (lv := [(0, .ref a_0), (1, .int i_0)]) (by decide) (Nat.le_of_ble_eq_true rfl) rfl ?_
  intro p e s m below meth c A ls R args Q H locs hRe hQ hAe hx hb hr hlocks hml hown hnm hts hsz hA hS hP hK hD hZ hl
  have hRf : R.frames = 2 := by rw [hRe]
  have hRl : R.locals = 46 := by rw [hRe]
  have hRc : R.cells = 0 := by rw [hRe]
  have hRs : R.slots = 0 := by rw [hRe]
  refine lv_aload_n hx hb dX12_back_0 rfl (lv_at hl 0 rfl) ?_
  refine lv_iconst (v := 0) hx hb dX12_back_1 (by decide) ?_
  refine va_put (D := G) (ci := 12) (v := .int 0) (ty := tyX12 0) (C := RX12) (T := TX12) (N := 38) hx hb hts (mm_i inlX12) tyX12 tyX12_ok nmX12 hown hK.1 hP hD hS 0 rfl rfl 0 (by decide) (mm_h hts mm_w177) (fun _ h9 => h9) rfl (tyX12_ok 0 (by decide)) rfl rfl (Nat.le_of_ble_eq_true rfl) dX12_back_2 ?_
  clear hP hD hS
  clear H locs
  intro H locs (hP : va_P G vwCl [(a_0, .inr (12, [.int 0, .ref a_1, .ref a_2, .ref a_3, .ref a_4, .ref a_5, .int i_2, .int i_3, .int i_4, .int i_5, .int i_6, .long j_0, .int i_7, .int i_8, .int i_9, .int i_10, .ref a_6, .ref a_7, .ref a_8, .ref a_9, .ref a_10, .ref a_11, .ref a_12, .ref a_13, .ref a_14, .ref a_15, .ref a_16, .ref a_17, .ref a_18, .int i_11, .int i_12, .int i_13, .int i_14, .int i_15, .int i_16, .ref a_19, .int i_17, .ref a_20])), (a_6, .inl (cy 1, 5, .inl (mm_g [i_18, i_19, i_20, i_21, i_22]))), (a_7, .inl (cy 1, 30, .inl (mm_g [i_23, i_24, i_25, i_26, i_27, i_28, i_29, i_30, i_31, i_32, i_33, i_34, i_35, i_36, i_37, i_38, i_39, i_40, i_41, i_42, i_43, i_44, i_45, i_46, i_47, i_48, i_49, i_50, i_51, i_52]))), (a_8, .inl (cy 1, 90, .inl f_0)), (a_9, .inl (cy 1, 15, .inl f_1)), (a_10, .inl (cy 1, 1050, .inl f_2)), (a_11, .inl (cy 1, 30, .inl f_3)), (a_12, .inl (cy 1, 240, .inl f_4)), (a_13, .inl (cy 1, 450, .inl f_5)), (a_14, .inl (cy 3, 3, .inl f_6))] H) (hD : va_D A [(a_0, .inr (12, [.int 0, .ref a_1, .ref a_2, .ref a_3, .ref a_4, .ref a_5, .int i_2, .int i_3, .int i_4, .int i_5, .int i_6, .long j_0, .int i_7, .int i_8, .int i_9, .int i_10, .ref a_6, .ref a_7, .ref a_8, .ref a_9, .ref a_10, .ref a_11, .ref a_12, .ref a_13, .ref a_14, .ref a_15, .ref a_16, .ref a_17, .ref a_18, .int i_11, .int i_12, .int i_13, .int i_14, .int i_15, .int i_16, .ref a_19, .int i_17, .ref a_20])), (a_6, .inl (cy 1, 5, .inl (mm_g [i_18, i_19, i_20, i_21, i_22]))), (a_7, .inl (cy 1, 30, .inl (mm_g [i_23, i_24, i_25, i_26, i_27, i_28, i_29, i_30, i_31, i_32, i_33, i_34, i_35, i_36, i_37, i_38, i_39, i_40, i_41, i_42, i_43, i_44, i_45, i_46, i_47, i_48, i_49, i_50, i_51, i_52]))), (a_8, .inl (cy 1, 90, .inl f_0)), (a_9, .inl (cy 1, 15, .inl f_1)), (a_10, .inl (cy 1, 1050, .inl f_2)), (a_11, .inl (cy 1, 30, .inl f_3)), (a_12, .inl (cy 1, 240, .inl f_4)), (a_13, .inl (cy 1, 450, .inl f_5)), (a_14, .inl (cy 3, 3, .inl f_6))]) hS
  refine lv_iload_n hx hb dX12_back_5 rfl (lv_at hl 1 rfl) ?_
  obtain ⟨v1, ev1⟩ : ∃ y : Int64, y = i_0.toInt64 := ⟨_, rfl⟩
  refine lv_i2l hx hb dX12_back_6 ev1.symm ?_
  have rv1 : mm_rl v1 (-2147483648) 2147483647 := mm_i2l ev1 (mm_top i_0)
  refine lv_lconst (v := 0) hx hb dX12_back_7 (by decide) ?_
  refine lv_ldc2 (v := 2) hx hb hown (mm_h hts mm_w1664) dX12_back_8 ?_
  refine mm_finir (va_runS (As := [.long v1, .long 0, .long 2]) (rest := []) ⟨hx, hb, hml, hown, hts⟩ (M7_X12_in l G cy H.size v1 2 ) (va_cwS 3 hts (mm_gS mm_w191 mm_w192 mm_w5 mm_w193) rfl rfl rfl hs_X12_in ⟨by rw [hRf]; exact Nat.le_of_ble_eq_true rfl, by rw [hRl]; exact Nat.le_of_ble_eq_true rfl⟩) (mm_preS hK hZ hS hA hP hD [] rfl rfl) rfl rfl hl.1 rfl (lv_room (Nat.le_of_ble_eq_true rfl)) dX12_back_11 ⟨by rw [hRc]; exact Nat.le_of_ble_eq_true rfl, by rw [hRs]; exact Nat.le_of_ble_eq_true rfl⟩) hP hD hS hA [] rfl (fun _ => rfl) ?_
  clear hP hD hS
  clear H locs
  intro v2 _u H locs hw hP hD hS
  rcases hw with ⟨rfl, w3⟩ | ⟨rfl, w4, w5, w6, w7⟩
  · refine lv_if_ne (tgt := 20) hx hb dX12_back_14 (by decide) (fun c8 => ?_) (fun c8 => ?_)
    · exact absurd rfl (mm_ne c8)
    · refine lv_bipush (v := (-2)) hx hb dX12_back_17 (by decide) ?_
      subst hAe
      rw [hQ]
      exact W.iret (v := (-2)) hx hb hr (fun t ht hW => ⟨⟨(-2), (i_18, i_23, i_24, i_25, i_26, i_27, i_28, f_0, f_1, f_2, f_3, f_4, f_5), rfl, ⟨h0, h5, h6, h7, h8, h9, h10, h35, h36, h37, h38, h39, h40, h42, h43, h44, h45, h46, h47, h48, h50, h51, h52, h54, h55, h56, (mm_wk mm_km2 (by decide))⟩, by rw [ht]; exact hP, hK.warm hW, hD⟩, hS.F ht⟩) hS.2.2 dX12_back_19
  · have q9 := mm_meetl (lo := 0) (hi := 2147483647) w4 rv1 (by decide)
    have q10 := mm_meet (lo := 0) (hi := 2147483647) (mm_l2x ev1 q9) (mm_top i_0) (by decide)
    have q11 := mm_leLl w6 q9 mm_kl2
    have q12 := mm_meet (lo := 0) (hi := 2) (mm_l2x ev1 q11) q10 (by decide)
    refine lv_if_ne (tgt := 20) hx hb dX12_back_14 (by decide) (fun c13 => ?_) (fun c13 => ?_)
    · rcases mm_casesR0_3 q12 with rfl | rfl | rfl
      · refine lv_aload_n hx hb dX12_back_20 rfl (lv_at hl 0 rfl) ?_
        refine va_get (D := G) (ci := 12) (v := .ref a_14) (C := RX12) (T := TX12) (N := 38) hx hb hts (mm_i inlX12) hown hK.1 hP 0 rfl rfl 24 (by decide) (mm_h hts mm_w156) (fun _ h9 => h9) rfl dX12_back_21 ?_
        refine lv_iload_n hx hb dX12_back_24 rfl (lv_at hl 1 rfl) ?_
        refine va_zald hx hb hK.1 hP 9 3 rfl rfl (mm_in mm_k0 (by decide)) dX12_back_25 ?_
        refine lv_topi (fun v14 ev14 => ?_)
        have rv14 : mm_rg v14 0 1 := mm_eqv ev14 (h41 _)
        refine lv_if_ne (tgt := 32) hx hb dX12_back_26 (by decide) (fun c15 => ?_) (fun c15 => ?_)
        · have q16 := mm_neL (lo := 1) (mm_ne c15) rv14 mm_k0 (by decide) (by decide)
          refine lv_aload_n hx hb dX12_back_32 rfl (lv_at hl 0 rfl) ?_
          refine lv_iconst (v := 1) hx hb dX12_back_33 (by decide) ?_
          refine lv_iload_n hx hb dX12_back_34 rfl (lv_at hl 1 rfl) ?_
          refine lv_iadd hx hb dX12_back_35 ?_
          refine lv_topi (fun v17 ev17 => ?_)
          obtain rfl : v17 = 1 := ev17.trans (by decide)
          refine lv_iconst (v := 0) hx hb dX12_back_36 (by decide) ?_
          refine mm_finv (va_runV (As := [.int 1, .int 0]) (rest := []) ⟨hx, hb, hml, hown, hts⟩ (M359_X12_copyBook l G cy H.size a_0 0 a_1 a_2 a_3 a_4 a_5 i_2 i_3 i_4 i_5 i_6 j_0 i_7 i_8 i_9 i_10 a_6 a_7 a_8 a_9 a_10 a_11 a_12 a_13 a_14 a_15 a_16 a_17 a_18 i_11 i_12 i_13 i_14 i_15 i_16 a_19 i_17 a_20 i_18 i_19 i_20 i_21 i_22 i_23 i_24 i_25 i_26 i_27 i_28 i_29 i_30 i_31 i_32 i_33 i_34 i_35 i_36 i_37 i_38 i_39 i_40 i_41 i_42 i_43 i_44 i_45 i_46 i_47 i_48 i_49 i_50 i_51 i_52 f_0 f_1 f_2 f_3 f_4 f_5 h0 h1 h2 h3 h4 h5 h6 h7 h8 h9 h10 h11 h12 h13 h14 h15 h16 h17 h18 h19 h20 h21 h22 h23 h24 h25 h26 h27 h28 h29 h30 h31 h32 h33 h34 h35 h36 h37 h38 h39 h40 h42 h43 h44 h45 h46 h47 h48 h49 h50 h51 h52 h53 h54 h55 h56 h57) (cwV 2 hts (mm_gV mm_w553 mm_w554 mm_w555 mm_w5 mm_w556) rfl rfl rfl hd_X12_copyBook ⟨by rw [hRf]; exact Nat.le_of_ble_eq_true rfl, by rw [hRl]; exact Nat.le_of_ble_eq_true rfl⟩) (mm_preV hK hZ hS hA hP hD [0, 1, 2, 3, 4, 5, 6, 7, 8] rfl rfl 0 rfl rfl rfl) rfl rfl hl.1 rfl (lv_room (Nat.le_of_ble_eq_true rfl)) dX12_back_37 ⟨by rw [hRc]; exact Nat.le_of_ble_eq_true rfl, by rw [hRs]; exact Nat.le_of_ble_eq_true rfl⟩) hP hD hS hA (fun u : (Nat → Int32) × (Nat → Int32) × (Nat → Int32) × (Nat → Int32) × (Nat → Int32) × (Nat → Int32) => [(a_0, .inr (12, [.int 0, .ref a_1, .ref a_2, .ref a_3, .ref a_4, .ref a_5, .int i_2, .int i_3, .int i_4, .int i_5, .int i_6, .long j_0, .int i_7, .int i_8, .int i_9, .int i_10, .ref a_6, .ref a_7, .ref a_8, .ref a_9, .ref a_10, .ref a_11, .ref a_12, .ref a_13, .ref a_14, .ref a_15, .ref a_16, .ref a_17, .ref a_18, .int i_11, .int i_12, .int i_13, .int i_14, .int i_15, .int i_16, .ref a_19, .int i_17, .ref a_20])), (a_6, .inl (cy 1, 5, .inl (mm_g [i_19, i_19, i_20, i_21, i_22]))), (a_7, .inl (cy 1, 30, .inl (mm_g [i_29, i_30, i_31, i_32, i_33, i_34, i_29, i_30, i_31, i_32, i_33, i_34, i_35, i_36, i_37, i_38, i_39, i_40, i_41, i_42, i_43, i_44, i_45, i_46, i_47, i_48, i_49, i_50, i_51, i_52]))), (a_8, .inl (cy 1, 90, .inl u.1)), (a_9, .inl (cy 1, 15, .inl u.2.1)), (a_10, .inl (cy 1, 1050, .inl u.2.2.1)), (a_11, .inl (cy 1, 30, .inl u.2.2.2.1)), (a_12, .inl (cy 1, 240, .inl u.2.2.2.2.1)), (a_13, .inl (cy 1, 450, .inl u.2.2.2.2.2)), (a_14, .inl (cy 3, 3, .inl f_6))]) [0, 1, 2, 3, 4, 5, 6, 7, 8] [9] (n := 10) (fun _ => rfl) (by decide +kernel) (by decide +kernel) rfl (fun _ => rfl) (wr := [(a_14, .inl (cy 3, 3, .inl f_6))]) rfl (fun _ => rfl) (fun _ => @rfl _ ([a_0, a_6, a_7, a_8, a_9, a_10, a_11, a_12, a_13] : List Nat)) ?_
          clear hP hD hS
          clear H locs
          intro u
          obtain ⟨n18, n19, n20, n21, n22, n23⟩ := u
          intro H locs hw (hP : va_P G vwCl [(a_0, .inr (12, [.int 0, .ref a_1, .ref a_2, .ref a_3, .ref a_4, .ref a_5, .int i_2, .int i_3, .int i_4, .int i_5, .int i_6, .long j_0, .int i_7, .int i_8, .int i_9, .int i_10, .ref a_6, .ref a_7, .ref a_8, .ref a_9, .ref a_10, .ref a_11, .ref a_12, .ref a_13, .ref a_14, .ref a_15, .ref a_16, .ref a_17, .ref a_18, .int i_11, .int i_12, .int i_13, .int i_14, .int i_15, .int i_16, .ref a_19, .int i_17, .ref a_20])), (a_6, .inl (cy 1, 5, .inl (mm_g [i_19, i_19, i_20, i_21, i_22]))), (a_7, .inl (cy 1, 30, .inl (mm_g [i_29, i_30, i_31, i_32, i_33, i_34, i_29, i_30, i_31, i_32, i_33, i_34, i_35, i_36, i_37, i_38, i_39, i_40, i_41, i_42, i_43, i_44, i_45, i_46, i_47, i_48, i_49, i_50, i_51, i_52]))), (a_8, .inl (cy 1, 90, .inl n18)), (a_9, .inl (cy 1, 15, .inl n19)), (a_10, .inl (cy 1, 1050, .inl n20)), (a_11, .inl (cy 1, 30, .inl n21)), (a_12, .inl (cy 1, 240, .inl n22)), (a_13, .inl (cy 1, 450, .inl n23)), (a_14, .inl (cy 3, 3, .inl f_6))] H) (hD : va_D A [(a_0, .inr (12, [.int 0, .ref a_1, .ref a_2, .ref a_3, .ref a_4, .ref a_5, .int i_2, .int i_3, .int i_4, .int i_5, .int i_6, .long j_0, .int i_7, .int i_8, .int i_9, .int i_10, .ref a_6, .ref a_7, .ref a_8, .ref a_9, .ref a_10, .ref a_11, .ref a_12, .ref a_13, .ref a_14, .ref a_15, .ref a_16, .ref a_17, .ref a_18, .int i_11, .int i_12, .int i_13, .int i_14, .int i_15, .int i_16, .ref a_19, .int i_17, .ref a_20])), (a_6, .inl (cy 1, 5, .inl (mm_g [i_19, i_19, i_20, i_21, i_22]))), (a_7, .inl (cy 1, 30, .inl (mm_g [i_29, i_30, i_31, i_32, i_33, i_34, i_29, i_30, i_31, i_32, i_33, i_34, i_35, i_36, i_37, i_38, i_39, i_40, i_41, i_42, i_43, i_44, i_45, i_46, i_47, i_48, i_49, i_50, i_51, i_52]))), (a_8, .inl (cy 1, 90, .inl n18)), (a_9, .inl (cy 1, 15, .inl n19)), (a_10, .inl (cy 1, 1050, .inl n20)), (a_11, .inl (cy 1, 30, .inl n21)), (a_12, .inl (cy 1, 240, .inl n22)), (a_13, .inl (cy 1, 450, .inl n23)), (a_14, .inl (cy 3, 3, .inl f_6))]) hS
          obtain ⟨w24, w25, w26, w27, w28, w29, w30, w31, w32, w33, w34, w35, w36, w37, w38, w39, w40, w41⟩ := hw
          replace w30 : mm_rls n19 n20 0 i_31 i_32 := w30
          replace w31 : mm_txs n21 n22 0 i_31 i_33 := w31
          replace w32 : mm_acs n23 0 i_31 i_32 i_34 := w32
          replace w33 : mm_rls n19 n20 1 i_31 i_32 := w33
          replace w34 : mm_txs n21 n22 1 i_31 i_33 := w34
          replace w35 : mm_acs n23 1 i_31 i_32 i_34 := w35
          replace w36 : mm_rls n19 n20 2 i_37 i_38 := w36
          replace w37 : mm_txs n21 n22 2 i_37 i_39 := w37
          replace w38 : mm_acs n23 2 i_37 i_38 i_40 := w38
          replace w39 : mm_rls n19 n20 3 i_43 i_44 := w39
          replace w40 : mm_txs n21 n22 3 i_43 i_45 := w40
          replace w41 : mm_acs n23 3 i_43 i_44 i_46 := w41
          refine lv_iconst (v := 0) hx hb dX12_back_40 (by decide) ?_
          subst hAe
          rw [hQ]
          exact W.iret (v := 0) hx hb hr (fun t ht hW => ⟨⟨0, (i_19, i_29, i_30, i_31, i_32, i_33, i_34, n18, n19, n20, n21, n22, n23), rfl, ⟨h1, h11, h12, h13, h14, h15, h16, w24, w25, w26, w27, w28, w29, w30, w31, w32, h49, w33, w34, w35, w36, w37, w38, w39, w40, w41, (mm_wk mm_k0 (by decide))⟩, by rw [ht]; exact hP, hK.warm hW, hD⟩, hS.F ht⟩) hS.2.2 dX12_back_41
        · have q42 := mm_eqI (lo := 0) (hi := 0) c15 rv14 mm_k0 (by decide)
          refine lv_bipush (v := (-6)) hx hb dX12_back_29 (by decide) ?_
          subst hAe
          rw [hQ]
          exact W.iret (v := (-6)) hx hb hr (fun t ht hW => ⟨⟨(-6), (i_18, i_23, i_24, i_25, i_26, i_27, i_28, f_0, f_1, f_2, f_3, f_4, f_5), rfl, ⟨h0, h5, h6, h7, h8, h9, h10, h35, h36, h37, h38, h39, h40, h42, h43, h44, h45, h46, h47, h48, h50, h51, h52, h54, h55, h56, (mm_wk mm_km6 (by decide))⟩, by rw [ht]; exact hP, hK.warm hW, hD⟩, hS.F ht⟩) hS.2.2 dX12_back_31
      · refine lv_aload_n hx hb dX12_back_20 rfl (lv_at hl 0 rfl) ?_
        refine va_get (D := G) (ci := 12) (v := .ref a_14) (C := RX12) (T := TX12) (N := 38) hx hb hts (mm_i inlX12) hown hK.1 hP 0 rfl rfl 24 (by decide) (mm_h hts mm_w156) (fun _ h9 => h9) rfl dX12_back_21 ?_
        refine lv_iload_n hx hb dX12_back_24 rfl (lv_at hl 1 rfl) ?_
        refine va_zald hx hb hK.1 hP 9 3 rfl rfl (mm_in mm_k1 (by decide)) dX12_back_25 ?_
        refine lv_topi (fun v43 ev43 => ?_)
        have rv43 : mm_rg v43 0 1 := mm_eqv ev43 (h41 _)
        refine lv_if_ne (tgt := 32) hx hb dX12_back_26 (by decide) (fun c44 => ?_) (fun c44 => ?_)
        · have q45 := mm_neL (lo := 1) (mm_ne c44) rv43 mm_k0 (by decide) (by decide)
          refine lv_aload_n hx hb dX12_back_32 rfl (lv_at hl 0 rfl) ?_
          refine lv_iconst (v := 1) hx hb dX12_back_33 (by decide) ?_
          refine lv_iload_n hx hb dX12_back_34 rfl (lv_at hl 1 rfl) ?_
          refine lv_iadd hx hb dX12_back_35 ?_
          refine lv_topi (fun v46 ev46 => ?_)
          obtain rfl : v46 = 2 := ev46.trans (by decide)
          refine lv_iconst (v := 0) hx hb dX12_back_36 (by decide) ?_
          refine mm_finv (va_runV (As := [.int 2, .int 0]) (rest := []) ⟨hx, hb, hml, hown, hts⟩ (M368_X12_copyBook l G cy H.size a_0 0 a_1 a_2 a_3 a_4 a_5 i_2 i_3 i_4 i_5 i_6 j_0 i_7 i_8 i_9 i_10 a_6 a_7 a_8 a_9 a_10 a_11 a_12 a_13 a_14 a_15 a_16 a_17 a_18 i_11 i_12 i_13 i_14 i_15 i_16 a_19 i_17 a_20 i_18 i_19 i_20 i_21 i_22 i_23 i_24 i_25 i_26 i_27 i_28 i_29 i_30 i_31 i_32 i_33 i_34 i_35 i_36 i_37 i_38 i_39 i_40 i_41 i_42 i_43 i_44 i_45 i_46 i_47 i_48 i_49 i_50 i_51 i_52 f_0 f_1 f_2 f_3 f_4 f_5 h0 h1 h2 h3 h4 h5 h6 h7 h8 h9 h10 h11 h12 h13 h14 h15 h16 h17 h18 h19 h20 h21 h22 h23 h24 h25 h26 h27 h28 h29 h30 h31 h32 h33 h34 h35 h36 h37 h38 h39 h40 h42 h43 h44 h45 h46 h47 h48 h49 h50 h51 h52 h53 h54 h55 h56 h57) (cwV 2 hts (mm_gV mm_w553 mm_w554 mm_w555 mm_w5 mm_w556) rfl rfl rfl hd_X12_copyBook ⟨by rw [hRf]; exact Nat.le_of_ble_eq_true rfl, by rw [hRl]; exact Nat.le_of_ble_eq_true rfl⟩) (mm_preV hK hZ hS hA hP hD [0, 1, 2, 3, 4, 5, 6, 7, 8] rfl rfl 0 rfl rfl rfl) rfl rfl hl.1 rfl (lv_room (Nat.le_of_ble_eq_true rfl)) dX12_back_37 ⟨by rw [hRc]; exact Nat.le_of_ble_eq_true rfl, by rw [hRs]; exact Nat.le_of_ble_eq_true rfl⟩) hP hD hS hA (fun u : (Nat → Int32) × (Nat → Int32) × (Nat → Int32) × (Nat → Int32) × (Nat → Int32) × (Nat → Int32) => [(a_0, .inr (12, [.int 0, .ref a_1, .ref a_2, .ref a_3, .ref a_4, .ref a_5, .int i_2, .int i_3, .int i_4, .int i_5, .int i_6, .long j_0, .int i_7, .int i_8, .int i_9, .int i_10, .ref a_6, .ref a_7, .ref a_8, .ref a_9, .ref a_10, .ref a_11, .ref a_12, .ref a_13, .ref a_14, .ref a_15, .ref a_16, .ref a_17, .ref a_18, .int i_11, .int i_12, .int i_13, .int i_14, .int i_15, .int i_16, .ref a_19, .int i_17, .ref a_20])), (a_6, .inl (cy 1, 5, .inl (mm_g [i_20, i_19, i_20, i_21, i_22]))), (a_7, .inl (cy 1, 30, .inl (mm_g [i_35, i_36, i_37, i_38, i_39, i_40, i_29, i_30, i_31, i_32, i_33, i_34, i_35, i_36, i_37, i_38, i_39, i_40, i_41, i_42, i_43, i_44, i_45, i_46, i_47, i_48, i_49, i_50, i_51, i_52]))), (a_8, .inl (cy 1, 90, .inl u.1)), (a_9, .inl (cy 1, 15, .inl u.2.1)), (a_10, .inl (cy 1, 1050, .inl u.2.2.1)), (a_11, .inl (cy 1, 30, .inl u.2.2.2.1)), (a_12, .inl (cy 1, 240, .inl u.2.2.2.2.1)), (a_13, .inl (cy 1, 450, .inl u.2.2.2.2.2)), (a_14, .inl (cy 3, 3, .inl f_6))]) [0, 1, 2, 3, 4, 5, 6, 7, 8] [9] (n := 10) (fun _ => rfl) (by decide +kernel) (by decide +kernel) rfl (fun _ => rfl) (wr := [(a_14, .inl (cy 3, 3, .inl f_6))]) rfl (fun _ => rfl) (fun _ => @rfl _ ([a_0, a_6, a_7, a_8, a_9, a_10, a_11, a_12, a_13] : List Nat)) ?_
          clear hP hD hS
          clear H locs
          intro u
          obtain ⟨n47, n48, n49, n50, n51, n52⟩ := u
          intro H locs hw (hP : va_P G vwCl [(a_0, .inr (12, [.int 0, .ref a_1, .ref a_2, .ref a_3, .ref a_4, .ref a_5, .int i_2, .int i_3, .int i_4, .int i_5, .int i_6, .long j_0, .int i_7, .int i_8, .int i_9, .int i_10, .ref a_6, .ref a_7, .ref a_8, .ref a_9, .ref a_10, .ref a_11, .ref a_12, .ref a_13, .ref a_14, .ref a_15, .ref a_16, .ref a_17, .ref a_18, .int i_11, .int i_12, .int i_13, .int i_14, .int i_15, .int i_16, .ref a_19, .int i_17, .ref a_20])), (a_6, .inl (cy 1, 5, .inl (mm_g [i_20, i_19, i_20, i_21, i_22]))), (a_7, .inl (cy 1, 30, .inl (mm_g [i_35, i_36, i_37, i_38, i_39, i_40, i_29, i_30, i_31, i_32, i_33, i_34, i_35, i_36, i_37, i_38, i_39, i_40, i_41, i_42, i_43, i_44, i_45, i_46, i_47, i_48, i_49, i_50, i_51, i_52]))), (a_8, .inl (cy 1, 90, .inl n47)), (a_9, .inl (cy 1, 15, .inl n48)), (a_10, .inl (cy 1, 1050, .inl n49)), (a_11, .inl (cy 1, 30, .inl n50)), (a_12, .inl (cy 1, 240, .inl n51)), (a_13, .inl (cy 1, 450, .inl n52)), (a_14, .inl (cy 3, 3, .inl f_6))] H) (hD : va_D A [(a_0, .inr (12, [.int 0, .ref a_1, .ref a_2, .ref a_3, .ref a_4, .ref a_5, .int i_2, .int i_3, .int i_4, .int i_5, .int i_6, .long j_0, .int i_7, .int i_8, .int i_9, .int i_10, .ref a_6, .ref a_7, .ref a_8, .ref a_9, .ref a_10, .ref a_11, .ref a_12, .ref a_13, .ref a_14, .ref a_15, .ref a_16, .ref a_17, .ref a_18, .int i_11, .int i_12, .int i_13, .int i_14, .int i_15, .int i_16, .ref a_19, .int i_17, .ref a_20])), (a_6, .inl (cy 1, 5, .inl (mm_g [i_20, i_19, i_20, i_21, i_22]))), (a_7, .inl (cy 1, 30, .inl (mm_g [i_35, i_36, i_37, i_38, i_39, i_40, i_29, i_30, i_31, i_32, i_33, i_34, i_35, i_36, i_37, i_38, i_39, i_40, i_41, i_42, i_43, i_44, i_45, i_46, i_47, i_48, i_49, i_50, i_51, i_52]))), (a_8, .inl (cy 1, 90, .inl n47)), (a_9, .inl (cy 1, 15, .inl n48)), (a_10, .inl (cy 1, 1050, .inl n49)), (a_11, .inl (cy 1, 30, .inl n50)), (a_12, .inl (cy 1, 240, .inl n51)), (a_13, .inl (cy 1, 450, .inl n52)), (a_14, .inl (cy 3, 3, .inl f_6))]) hS
          obtain ⟨w53, w54, w55, w56, w57, w58, w59, w60, w61, w62, w63, w64, w65, w66, w67, w68, w69, w70⟩ := hw
          replace w59 : mm_rls n48 n49 0 i_37 i_38 := w59
          replace w60 : mm_txs n50 n51 0 i_37 i_39 := w60
          replace w61 : mm_acs n52 0 i_37 i_38 i_40 := w61
          replace w62 : mm_rls n48 n49 1 i_31 i_32 := w62
          replace w63 : mm_txs n50 n51 1 i_31 i_33 := w63
          replace w64 : mm_acs n52 1 i_31 i_32 i_34 := w64
          replace w65 : mm_rls n48 n49 2 i_37 i_38 := w65
          replace w66 : mm_txs n50 n51 2 i_37 i_39 := w66
          replace w67 : mm_acs n52 2 i_37 i_38 i_40 := w67
          replace w68 : mm_rls n48 n49 3 i_43 i_44 := w68
          replace w69 : mm_txs n50 n51 3 i_43 i_45 := w69
          replace w70 : mm_acs n52 3 i_43 i_44 i_46 := w70
          refine lv_iconst (v := 0) hx hb dX12_back_40 (by decide) ?_
          subst hAe
          rw [hQ]
          exact W.iret (v := 0) hx hb hr (fun t ht hW => ⟨⟨0, (i_20, i_35, i_36, i_37, i_38, i_39, i_40, n47, n48, n49, n50, n51, n52), rfl, ⟨h2, h17, h18, h19, h20, h21, h22, w53, w54, w55, w56, w57, w58, w59, w60, w61, h53, w62, w63, w64, w65, w66, w67, w68, w69, w70, (mm_wk mm_k0 (by decide))⟩, by rw [ht]; exact hP, hK.warm hW, hD⟩, hS.F ht⟩) hS.2.2 dX12_back_41
        · have q71 := mm_eqI (lo := 0) (hi := 0) c44 rv43 mm_k0 (by decide)
          refine lv_bipush (v := (-6)) hx hb dX12_back_29 (by decide) ?_
          subst hAe
          rw [hQ]
          exact W.iret (v := (-6)) hx hb hr (fun t ht hW => ⟨⟨(-6), (i_18, i_23, i_24, i_25, i_26, i_27, i_28, f_0, f_1, f_2, f_3, f_4, f_5), rfl, ⟨h0, h5, h6, h7, h8, h9, h10, h35, h36, h37, h38, h39, h40, h42, h43, h44, h45, h46, h47, h48, h50, h51, h52, h54, h55, h56, (mm_wk mm_km6 (by decide))⟩, by rw [ht]; exact hP, hK.warm hW, hD⟩, hS.F ht⟩) hS.2.2 dX12_back_31
      · refine lv_aload_n hx hb dX12_back_20 rfl (lv_at hl 0 rfl) ?_
        refine va_get (D := G) (ci := 12) (v := .ref a_14) (C := RX12) (T := TX12) (N := 38) hx hb hts (mm_i inlX12) hown hK.1 hP 0 rfl rfl 24 (by decide) (mm_h hts mm_w156) (fun _ h9 => h9) rfl dX12_back_21 ?_
        refine lv_iload_n hx hb dX12_back_24 rfl (lv_at hl 1 rfl) ?_
        refine va_zald hx hb hK.1 hP 9 3 rfl rfl (mm_in mm_k2 (by decide)) dX12_back_25 ?_
        refine lv_topi (fun v72 ev72 => ?_)
        have rv72 : mm_rg v72 0 1 := mm_eqv ev72 (h41 _)
        refine lv_if_ne (tgt := 32) hx hb dX12_back_26 (by decide) (fun c73 => ?_) (fun c73 => ?_)
        · have q74 := mm_neL (lo := 1) (mm_ne c73) rv72 mm_k0 (by decide) (by decide)
          refine lv_aload_n hx hb dX12_back_32 rfl (lv_at hl 0 rfl) ?_
          refine lv_iconst (v := 1) hx hb dX12_back_33 (by decide) ?_
          refine lv_iload_n hx hb dX12_back_34 rfl (lv_at hl 1 rfl) ?_
          refine lv_iadd hx hb dX12_back_35 ?_
          refine lv_topi (fun v75 ev75 => ?_)
          obtain rfl : v75 = 3 := ev75.trans (by decide)
          refine lv_iconst (v := 0) hx hb dX12_back_36 (by decide) ?_
          refine mm_finv (va_runV (As := [.int 3, .int 0]) (rest := []) ⟨hx, hb, hml, hown, hts⟩ (M377_X12_copyBook l G cy H.size a_0 0 a_1 a_2 a_3 a_4 a_5 i_2 i_3 i_4 i_5 i_6 j_0 i_7 i_8 i_9 i_10 a_6 a_7 a_8 a_9 a_10 a_11 a_12 a_13 a_14 a_15 a_16 a_17 a_18 i_11 i_12 i_13 i_14 i_15 i_16 a_19 i_17 a_20 i_18 i_19 i_20 i_21 i_22 i_23 i_24 i_25 i_26 i_27 i_28 i_29 i_30 i_31 i_32 i_33 i_34 i_35 i_36 i_37 i_38 i_39 i_40 i_41 i_42 i_43 i_44 i_45 i_46 i_47 i_48 i_49 i_50 i_51 i_52 f_0 f_1 f_2 f_3 f_4 f_5 h0 h1 h2 h3 h4 h5 h6 h7 h8 h9 h10 h11 h12 h13 h14 h15 h16 h17 h18 h19 h20 h21 h22 h23 h24 h25 h26 h27 h28 h29 h30 h31 h32 h33 h34 h35 h36 h37 h38 h39 h40 h42 h43 h44 h45 h46 h47 h48 h49 h50 h51 h52 h53 h54 h55 h56 h57) (cwV 2 hts (mm_gV mm_w553 mm_w554 mm_w555 mm_w5 mm_w556) rfl rfl rfl hd_X12_copyBook ⟨by rw [hRf]; exact Nat.le_of_ble_eq_true rfl, by rw [hRl]; exact Nat.le_of_ble_eq_true rfl⟩) (mm_preV hK hZ hS hA hP hD [0, 1, 2, 3, 4, 5, 6, 7, 8] rfl rfl 0 rfl rfl rfl) rfl rfl hl.1 rfl (lv_room (Nat.le_of_ble_eq_true rfl)) dX12_back_37 ⟨by rw [hRc]; exact Nat.le_of_ble_eq_true rfl, by rw [hRs]; exact Nat.le_of_ble_eq_true rfl⟩) hP hD hS hA (fun u : (Nat → Int32) × (Nat → Int32) × (Nat → Int32) × (Nat → Int32) × (Nat → Int32) × (Nat → Int32) => [(a_0, .inr (12, [.int 0, .ref a_1, .ref a_2, .ref a_3, .ref a_4, .ref a_5, .int i_2, .int i_3, .int i_4, .int i_5, .int i_6, .long j_0, .int i_7, .int i_8, .int i_9, .int i_10, .ref a_6, .ref a_7, .ref a_8, .ref a_9, .ref a_10, .ref a_11, .ref a_12, .ref a_13, .ref a_14, .ref a_15, .ref a_16, .ref a_17, .ref a_18, .int i_11, .int i_12, .int i_13, .int i_14, .int i_15, .int i_16, .ref a_19, .int i_17, .ref a_20])), (a_6, .inl (cy 1, 5, .inl (mm_g [i_21, i_19, i_20, i_21, i_22]))), (a_7, .inl (cy 1, 30, .inl (mm_g [i_41, i_42, i_43, i_44, i_45, i_46, i_29, i_30, i_31, i_32, i_33, i_34, i_35, i_36, i_37, i_38, i_39, i_40, i_41, i_42, i_43, i_44, i_45, i_46, i_47, i_48, i_49, i_50, i_51, i_52]))), (a_8, .inl (cy 1, 90, .inl u.1)), (a_9, .inl (cy 1, 15, .inl u.2.1)), (a_10, .inl (cy 1, 1050, .inl u.2.2.1)), (a_11, .inl (cy 1, 30, .inl u.2.2.2.1)), (a_12, .inl (cy 1, 240, .inl u.2.2.2.2.1)), (a_13, .inl (cy 1, 450, .inl u.2.2.2.2.2)), (a_14, .inl (cy 3, 3, .inl f_6))]) [0, 1, 2, 3, 4, 5, 6, 7, 8] [9] (n := 10) (fun _ => rfl) (by decide +kernel) (by decide +kernel) rfl (fun _ => rfl) (wr := [(a_14, .inl (cy 3, 3, .inl f_6))]) rfl (fun _ => rfl) (fun _ => @rfl _ ([a_0, a_6, a_7, a_8, a_9, a_10, a_11, a_12, a_13] : List Nat)) ?_
          clear hP hD hS
          clear H locs
          intro u
          obtain ⟨n76, n77, n78, n79, n80, n81⟩ := u
          intro H locs hw (hP : va_P G vwCl [(a_0, .inr (12, [.int 0, .ref a_1, .ref a_2, .ref a_3, .ref a_4, .ref a_5, .int i_2, .int i_3, .int i_4, .int i_5, .int i_6, .long j_0, .int i_7, .int i_8, .int i_9, .int i_10, .ref a_6, .ref a_7, .ref a_8, .ref a_9, .ref a_10, .ref a_11, .ref a_12, .ref a_13, .ref a_14, .ref a_15, .ref a_16, .ref a_17, .ref a_18, .int i_11, .int i_12, .int i_13, .int i_14, .int i_15, .int i_16, .ref a_19, .int i_17, .ref a_20])), (a_6, .inl (cy 1, 5, .inl (mm_g [i_21, i_19, i_20, i_21, i_22]))), (a_7, .inl (cy 1, 30, .inl (mm_g [i_41, i_42, i_43, i_44, i_45, i_46, i_29, i_30, i_31, i_32, i_33, i_34, i_35, i_36, i_37, i_38, i_39, i_40, i_41, i_42, i_43, i_44, i_45, i_46, i_47, i_48, i_49, i_50, i_51, i_52]))), (a_8, .inl (cy 1, 90, .inl n76)), (a_9, .inl (cy 1, 15, .inl n77)), (a_10, .inl (cy 1, 1050, .inl n78)), (a_11, .inl (cy 1, 30, .inl n79)), (a_12, .inl (cy 1, 240, .inl n80)), (a_13, .inl (cy 1, 450, .inl n81)), (a_14, .inl (cy 3, 3, .inl f_6))] H) (hD : va_D A [(a_0, .inr (12, [.int 0, .ref a_1, .ref a_2, .ref a_3, .ref a_4, .ref a_5, .int i_2, .int i_3, .int i_4, .int i_5, .int i_6, .long j_0, .int i_7, .int i_8, .int i_9, .int i_10, .ref a_6, .ref a_7, .ref a_8, .ref a_9, .ref a_10, .ref a_11, .ref a_12, .ref a_13, .ref a_14, .ref a_15, .ref a_16, .ref a_17, .ref a_18, .int i_11, .int i_12, .int i_13, .int i_14, .int i_15, .int i_16, .ref a_19, .int i_17, .ref a_20])), (a_6, .inl (cy 1, 5, .inl (mm_g [i_21, i_19, i_20, i_21, i_22]))), (a_7, .inl (cy 1, 30, .inl (mm_g [i_41, i_42, i_43, i_44, i_45, i_46, i_29, i_30, i_31, i_32, i_33, i_34, i_35, i_36, i_37, i_38, i_39, i_40, i_41, i_42, i_43, i_44, i_45, i_46, i_47, i_48, i_49, i_50, i_51, i_52]))), (a_8, .inl (cy 1, 90, .inl n76)), (a_9, .inl (cy 1, 15, .inl n77)), (a_10, .inl (cy 1, 1050, .inl n78)), (a_11, .inl (cy 1, 30, .inl n79)), (a_12, .inl (cy 1, 240, .inl n80)), (a_13, .inl (cy 1, 450, .inl n81)), (a_14, .inl (cy 3, 3, .inl f_6))]) hS
          obtain ⟨w82, w83, w84, w85, w86, w87, w88, w89, w90, w91, w92, w93, w94, w95, w96, w97, w98, w99⟩ := hw
          replace w88 : mm_rls n77 n78 0 i_43 i_44 := w88
          replace w89 : mm_txs n79 n80 0 i_43 i_45 := w89
          replace w90 : mm_acs n81 0 i_43 i_44 i_46 := w90
          replace w91 : mm_rls n77 n78 1 i_31 i_32 := w91
          replace w92 : mm_txs n79 n80 1 i_31 i_33 := w92
          replace w93 : mm_acs n81 1 i_31 i_32 i_34 := w93
          replace w94 : mm_rls n77 n78 2 i_37 i_38 := w94
          replace w95 : mm_txs n79 n80 2 i_37 i_39 := w95
          replace w96 : mm_acs n81 2 i_37 i_38 i_40 := w96
          replace w97 : mm_rls n77 n78 3 i_43 i_44 := w97
          replace w98 : mm_txs n79 n80 3 i_43 i_45 := w98
          replace w99 : mm_acs n81 3 i_43 i_44 i_46 := w99
          refine lv_iconst (v := 0) hx hb dX12_back_40 (by decide) ?_
          subst hAe
          rw [hQ]
          exact W.iret (v := 0) hx hb hr (fun t ht hW => ⟨⟨0, (i_21, i_41, i_42, i_43, i_44, i_45, i_46, n76, n77, n78, n79, n80, n81), rfl, ⟨h3, h23, h24, h25, h26, h27, h28, w82, w83, w84, w85, w86, w87, w88, w89, w90, h57, w91, w92, w93, w94, w95, w96, w97, w98, w99, (mm_wk mm_k0 (by decide))⟩, by rw [ht]; exact hP, hK.warm hW, hD⟩, hS.F ht⟩) hS.2.2 dX12_back_41
        · have q100 := mm_eqI (lo := 0) (hi := 0) c73 rv72 mm_k0 (by decide)
          refine lv_bipush (v := (-6)) hx hb dX12_back_29 (by decide) ?_
          subst hAe
          rw [hQ]
          exact W.iret (v := (-6)) hx hb hr (fun t ht hW => ⟨⟨(-6), (i_18, i_23, i_24, i_25, i_26, i_27, i_28, f_0, f_1, f_2, f_3, f_4, f_5), rfl, ⟨h0, h5, h6, h7, h8, h9, h10, h35, h36, h37, h38, h39, h40, h42, h43, h44, h45, h46, h47, h48, h50, h51, h52, h54, h55, h56, (mm_wk mm_km6 (by decide))⟩, by rw [ht]; exact hP, hK.warm hW, hD⟩, hS.F ht⟩) hS.2.2 dX12_back_31
    · exact mm_eqN c13.symm mm_k0 mm_k1 (by decide)

set_option maxHeartbeats 4000000 in
set_option maxRecDepth 100000 in
theorem M379_X12_row (l : Launch) (G : va_G) (cy : Nat → ClassId) (sz : Nat) (a_0 : Nat) (i_0 : Int32) (i_1 : Int32) (i_2 : Int32) (i_3 : Int32) (a_1 : Nat) (a_2 : Nat) (a_3 : Nat) (a_4 : Nat) (a_5 : Nat) (i_4 : Int32) (i_5 : Int32) (i_6 : Int32) (i_7 : Int32) (i_8 : Int32) (j_0 : Int64) (i_9 : Int32) (i_10 : Int32) (i_11 : Int32) (i_12 : Int32) (a_6 : Nat) (a_7 : Nat) (a_8 : Nat) (a_9 : Nat) (a_10 : Nat) (a_11 : Nat) (a_12 : Nat) (a_13 : Nat) (a_14 : Nat) (a_15 : Nat) (a_16 : Nat) (a_17 : Nat) (a_18 : Nat) (i_13 : Int32) (i_14 : Int32) (i_15 : Int32) (i_16 : Int32) (i_17 : Int32) (i_18 : Int32) (a_19 : Nat) (i_19 : Int32) (a_20 : Nat) (f_0 : Nat → Int32) (f_1 : Nat → Int32) (f_2 : Nat → Int64) (h0 : mm_ar f_0 (-1) 3) (h1 : mm_ar f_1 0 60)  : mm_CI l yX12_row (mm_ws yX12_row cX12_row 5 (some .int)) ({ frames := 2, cells := 0, slots := 0, locals := 45 } : Room) G cy sz [(a_0, .inr (12, [.int i_3, .ref a_1, .ref a_2, .ref a_3, .ref a_4, .ref a_5, .int i_4, .int i_5, .int i_6, .int i_7, .int i_8, .long j_0, .int i_9, .int i_10, .int i_11, .int i_12, .ref a_6, .ref a_7, .ref a_8, .ref a_9, .ref a_10, .ref a_11, .ref a_12, .ref a_13, .ref a_14, .ref a_15, .ref a_16, .ref a_17, .ref a_18, .int i_13, .int i_14, .int i_15, .int i_16, .int i_17, .int i_18, .ref a_19, .int i_19, .ref a_20])), (a_1, .inl (cy 1, 4, .inl f_0)), (a_2, .inl (cy 1, 4, .inl f_1)), (a_3, .inl (cy 2, 240, .inr (.inl f_2)))] [.ref a_0, .int i_0, .int i_1, .int i_2] (fun u : (Nat → Int32) × (Nat → Int32) × (Nat → Int64) => [(a_0, .inr (12, [.int 0, .ref a_1, .ref a_2, .ref a_3, .ref a_4, .ref a_5, .int i_4, .int i_5, .int i_6, .int i_7, .int i_8, .long j_0, .int i_9, .int i_10, .int i_11, .int i_12, .ref a_6, .ref a_7, .ref a_8, .ref a_9, .ref a_10, .ref a_11, .ref a_12, .ref a_13, .ref a_14, .ref a_15, .ref a_16, .ref a_17, .ref a_18, .int i_13, .int i_14, .int i_15, .int i_16, .int i_17, .int i_18, .ref a_19, .int i_19, .ref a_20])), (a_1, .inl (cy 1, 4, .inl u.1)), (a_2, .inl (cy 1, 4, .inl u.2.1)), (a_3, .inl (cy 2, 240, .inr (.inl u.2.2)))]) (fun (r : Int32) (u : (Nat → Int32) × (Nat → Int32) × (Nat → Int64)) => mm_ar u.1 (-1) 3 ∧ mm_ar u.2.1 0 60 ∧ mm_rg r (-3) 0) 0 0 := by
  refine mm_begin (lv := [(0, .ref a_0), (1, .int i_0), (2, .int i_1), (3, .int i_2)]) (by decide) (Nat.le_of_ble_eq_true rfl) rfl ?_
  intro p e s m below meth c A ls R args Q H locs hRe hQ hAe hx hb hr hlocks hml hown hnm hts hsz hA hS hP hK hD hZ hl
  have hRf : R.frames = 2 := by rw [hRe]
  have hRl : R.locals = 45 := by rw [hRe]
  have hRc : R.cells = 0 := by rw [hRe]
  have hRs : R.slots = 0 := by rw [hRe]
  refine lv_aload_n hx hb dX12_row_0 rfl (lv_at hl 0 rfl) ?_
  refine lv_iconst (v := 0) hx hb dX12_row_1 (by decide) ?_
  refine va_put (D := G) (ci := 12) (v := .int 0) (ty := tyX12 0) (C := RX12) (T := TX12) (N := 38) hx hb hts (mm_i inlX12) tyX12 tyX12_ok nmX12 hown hK.1 hP hD hS 0 rfl rfl 0 (by decide) (mm_h hts mm_w177) (fun _ h9 => h9) rfl (tyX12_ok 0 (by decide)) rfl rfl (Nat.le_of_ble_eq_true rfl) dX12_row_2 ?_
  clear hP hD hS
  clear H locs
  intro H locs (hP : va_P G vwCl [(a_0, .inr (12, [.int 0, .ref a_1, .ref a_2, .ref a_3, .ref a_4, .ref a_5, .int i_4, .int i_5, .int i_6, .int i_7, .int i_8, .long j_0, .int i_9, .int i_10, .int i_11, .int i_12, .ref a_6, .ref a_7, .ref a_8, .ref a_9, .ref a_10, .ref a_11, .ref a_12, .ref a_13, .ref a_14, .ref a_15, .ref a_16, .ref a_17, .ref a_18, .int i_13, .int i_14, .int i_15, .int i_16, .int i_17, .int i_18, .ref a_19, .int i_19, .ref a_20])), (a_1, .inl (cy 1, 4, .inl f_0)), (a_2, .inl (cy 1, 4, .inl f_1)), (a_3, .inl (cy 2, 240, .inr (.inl f_2)))] H) (hD : va_D A [(a_0, .inr (12, [.int 0, .ref a_1, .ref a_2, .ref a_3, .ref a_4, .ref a_5, .int i_4, .int i_5, .int i_6, .int i_7, .int i_8, .long j_0, .int i_9, .int i_10, .int i_11, .int i_12, .ref a_6, .ref a_7, .ref a_8, .ref a_9, .ref a_10, .ref a_11, .ref a_12, .ref a_13, .ref a_14, .ref a_15, .ref a_16, .ref a_17, .ref a_18, .int i_13, .int i_14, .int i_15, .int i_16, .int i_17, .int i_18, .ref a_19, .int i_19, .ref a_20])), (a_1, .inl (cy 1, 4, .inl f_0)), (a_2, .inl (cy 1, 4, .inl f_1)), (a_3, .inl (cy 2, 240, .inr (.inl f_2)))]) hS
  refine lv_iload_n hx hb dX12_row_5 rfl (lv_at hl 1 rfl) ?_
  refine mm_finir (va_runS (As := [.int i_0]) (rest := []) ⟨hx, hb, hml, hown, hts⟩ (M197_X12_isSlot l G cy H.size i_0 ) (va_cwS 1 hts (mm_gS mm_w1269 mm_w1270 mm_w5 mm_w1271) rfl rfl rfl hs_X12_isSlot ⟨by rw [hRf]; exact Nat.le_of_ble_eq_true rfl, by rw [hRl]; exact Nat.le_of_ble_eq_true rfl⟩) (mm_preS hK hZ hS hA hP hD [] rfl rfl) rfl rfl hl.1 rfl (lv_room (Nat.le_of_ble_eq_true rfl)) dX12_row_6 ⟨by rw [hRc]; exact Nat.le_of_ble_eq_true rfl, by rw [hRs]; exact Nat.le_of_ble_eq_true rfl⟩) hP hD hS hA [] rfl (fun _ => rfl) ?_
  clear hP hD hS
  clear H locs
  intro v1 _u H locs hw hP hD hS
  rcases hw with rfl | ⟨rfl, w2⟩
  · refine lv_if_eq (tgt := 30) hx hb dX12_row_9 (by decide) (fun c3 => ?_) (fun c3 => ?_)
    · refine lv_bipush (v := (-2)) hx hb dX12_row_30 (by decide) ?_
      subst hAe
      rw [hQ]
      exact W.iret (v := (-2)) hx hb hr (fun t ht hW => ⟨⟨(-2), (f_0, f_1, f_2), rfl, ⟨h0, h1, (mm_wk mm_km2 (by decide))⟩, by rw [ht]; exact hP, hK.warm hW, hD⟩, hS.F ht⟩) hS.2.2 dX12_row_32
    · exact absurd rfl (mm_ne c3)
  · refine lv_if_eq (tgt := 30) hx hb dX12_row_9 (by decide) (fun c4 => ?_) (fun c4 => ?_)
    · exact mm_eqN c4.symm mm_k0 mm_k1 (by decide)
    · refine lv_iload_n hx hb dX12_row_12 rfl (lv_at hl 2 rfl) ?_
      obtain ⟨v5, ev5⟩ : ∃ y : Int64, y = i_1.toInt64 := ⟨_, rfl⟩
      refine lv_i2l hx hb dX12_row_13 ev5.symm ?_
      have rv5 : mm_rl v5 (-2147483648) 2147483647 := mm_i2l ev5 (mm_top i_1)
      refine lv_lconst (v := 0) hx hb dX12_row_14 (by decide) ?_
      refine lv_ldc2 (v := 3) hx hb hown (mm_h hts mm_w1272) dX12_row_15 ?_
      refine mm_finir (va_runS (As := [.long v5, .long 0, .long 3]) (rest := []) ⟨hx, hb, hml, hown, hts⟩ (M7_X12_in l G cy H.size v5 3 ) (va_cwS 3 hts (mm_gS mm_w191 mm_w192 mm_w5 mm_w193) rfl rfl rfl hs_X12_in ⟨by rw [hRf]; exact Nat.le_of_ble_eq_true rfl, by rw [hRl]; exact Nat.le_of_ble_eq_true rfl⟩) (mm_preS hK hZ hS hA hP hD [] rfl rfl) rfl rfl hl.1 rfl (lv_room (Nat.le_of_ble_eq_true rfl)) dX12_row_18 ⟨by rw [hRc]; exact Nat.le_of_ble_eq_true rfl, by rw [hRs]; exact Nat.le_of_ble_eq_true rfl⟩) hP hD hS hA [] rfl (fun _ => rfl) ?_
      clear hP hD hS
      clear H locs
      intro v6 _u H locs hw hP hD hS
      rcases hw with ⟨rfl, w7⟩ | ⟨rfl, w8, w9, w10, w11⟩
      · refine lv_if_eq (tgt := 30) hx hb dX12_row_21 (by decide) (fun c12 => ?_) (fun c12 => ?_)
        · refine lv_bipush (v := (-2)) hx hb dX12_row_30 (by decide) ?_
          subst hAe
          rw [hQ]
          exact W.iret (v := (-2)) hx hb hr (fun t ht hW => ⟨⟨(-2), (f_0, f_1, f_2), rfl, ⟨h0, h1, (mm_wk mm_km2 (by decide))⟩, by rw [ht]; exact hP, hK.warm hW, hD⟩, hS.F ht⟩) hS.2.2 dX12_row_32
        · exact absurd rfl (mm_ne c12)
      · have q13 := mm_meetl (lo := 0) (hi := 2147483647) w8 rv5 (by decide)
        have q14 := mm_meet (lo := 0) (hi := 2147483647) (mm_l2x ev5 q13) (mm_top i_1) (by decide)
        have q15 := mm_leLl w10 q13 mm_kl3
        have q16 := mm_meet (lo := 0) (hi := 3) (mm_l2x ev5 q15) q14 (by decide)
        refine lv_if_eq (tgt := 30) hx hb dX12_row_21 (by decide) (fun c17 => ?_) (fun c17 => ?_)
        · exact mm_eqN c17.symm mm_k0 mm_k1 (by decide)
        · refine lv_iload_n hx hb dX12_row_24 rfl (lv_at hl 3 rfl) ?_
          refine lv_bipush (v := 60) hx hb dX12_row_25 (by decide) ?_
          refine lv_icmp_le (tgt := 33) hx hb dX12_row_27 (by decide) (fun c18 => ?_) (fun c18 => ?_)
          · have q19 := mm_leL (mm_le c18) (mm_top i_2) mm_k60
            refine lv_iload_n hx hb dX12_row_33 rfl (lv_at hl 3 rfl) ?_
            refine lv_if_ge (tgt := 40) hx hb dX12_row_34 (by decide) (fun c20 => ?_) (fun c20 => ?_)
            · have q21 := mm_leR (mm_le c20) mm_k0 q19
              refine lv_aload_n hx hb dX12_row_40 rfl (lv_at hl 0 rfl) ?_
              refine va_get (D := G) (ci := 12) (v := .ref a_1) (C := RX12) (T := TX12) (N := 38) hx hb hts (mm_i inlX12) hown hK.1 hP 0 rfl rfl 1 (by decide) (mm_h hts mm_w142) (fun _ h9 => h9) rfl dX12_row_41 ?_
              refine lv_iload_n hx hb dX12_row_44 rfl (lv_at hl 1 rfl) ?_
              refine lv_iload_n hx hb dX12_row_45 rfl (lv_at hl 2 rfl) ?_
              refine va_iast hx hb hK.1 hP hD hS 1 1 rfl rfl (mm_in w2 (by decide)) dX12_row_46 ?_
              clear hP hD hS
              clear H locs
              obtain ⟨g22, eg22⟩ : ∃ z : Nat → Int32, z = upd f_0 i_0.toNatClampNeg i_1 := ⟨_, rfl⟩
              rw [← eg22]
              intro H locs (hP : va_P G vwCl [(a_0, .inr (12, [.int 0, .ref a_1, .ref a_2, .ref a_3, .ref a_4, .ref a_5, .int i_4, .int i_5, .int i_6, .int i_7, .int i_8, .long j_0, .int i_9, .int i_10, .int i_11, .int i_12, .ref a_6, .ref a_7, .ref a_8, .ref a_9, .ref a_10, .ref a_11, .ref a_12, .ref a_13, .ref a_14, .ref a_15, .ref a_16, .ref a_17, .ref a_18, .int i_13, .int i_14, .int i_15, .int i_16, .int i_17, .int i_18, .ref a_19, .int i_19, .ref a_20])), (a_1, .inl (cy 1, 4, .inl g22)), (a_2, .inl (cy 1, 4, .inl f_1)), (a_3, .inl (cy 2, 240, .inr (.inl f_2)))] H) (hD : va_D A [(a_0, .inr (12, [.int 0, .ref a_1, .ref a_2, .ref a_3, .ref a_4, .ref a_5, .int i_4, .int i_5, .int i_6, .int i_7, .int i_8, .long j_0, .int i_9, .int i_10, .int i_11, .int i_12, .ref a_6, .ref a_7, .ref a_8, .ref a_9, .ref a_10, .ref a_11, .ref a_12, .ref a_13, .ref a_14, .ref a_15, .ref a_16, .ref a_17, .ref a_18, .int i_13, .int i_14, .int i_15, .int i_16, .int i_17, .int i_18, .ref a_19, .int i_19, .ref a_20])), (a_1, .inl (cy 1, 4, .inl g22)), (a_2, .inl (cy 1, 4, .inl f_1)), (a_3, .inl (cy 2, 240, .inr (.inl f_2)))]) hS
              have rg22 : mm_ar g22 (-1) 3 := by rw [eg22]; exact mm_ar_upd (mm_ar_wk h0 (by decide)) (mm_wk q16 (by decide)) _
              refine lv_aload_n hx hb dX12_row_47 rfl (lv_at hl 0 rfl) ?_
              refine va_get (D := G) (ci := 12) (v := .ref a_2) (C := RX12) (T := TX12) (N := 38) hx hb hts (mm_i inlX12) hown hK.1 hP 0 rfl rfl 2 (by decide) (mm_h hts mm_w143) (fun _ h9 => h9) rfl dX12_row_48 ?_
              refine lv_iload_n hx hb dX12_row_51 rfl (lv_at hl 1 rfl) ?_
              refine lv_iload_n hx hb dX12_row_52 rfl (lv_at hl 3 rfl) ?_
              refine va_iast hx hb hK.1 hP hD hS 2 1 rfl rfl (mm_in w2 (by decide)) dX12_row_53 ?_
              clear hP hD hS
              clear H locs
              obtain ⟨g23, eg23⟩ : ∃ z : Nat → Int32, z = upd f_1 i_0.toNatClampNeg i_2 := ⟨_, rfl⟩
              rw [← eg23]
              intro H locs (hP : va_P G vwCl [(a_0, .inr (12, [.int 0, .ref a_1, .ref a_2, .ref a_3, .ref a_4, .ref a_5, .int i_4, .int i_5, .int i_6, .int i_7, .int i_8, .long j_0, .int i_9, .int i_10, .int i_11, .int i_12, .ref a_6, .ref a_7, .ref a_8, .ref a_9, .ref a_10, .ref a_11, .ref a_12, .ref a_13, .ref a_14, .ref a_15, .ref a_16, .ref a_17, .ref a_18, .int i_13, .int i_14, .int i_15, .int i_16, .int i_17, .int i_18, .ref a_19, .int i_19, .ref a_20])), (a_1, .inl (cy 1, 4, .inl g22)), (a_2, .inl (cy 1, 4, .inl g23)), (a_3, .inl (cy 2, 240, .inr (.inl f_2)))] H) (hD : va_D A [(a_0, .inr (12, [.int 0, .ref a_1, .ref a_2, .ref a_3, .ref a_4, .ref a_5, .int i_4, .int i_5, .int i_6, .int i_7, .int i_8, .long j_0, .int i_9, .int i_10, .int i_11, .int i_12, .ref a_6, .ref a_7, .ref a_8, .ref a_9, .ref a_10, .ref a_11, .ref a_12, .ref a_13, .ref a_14, .ref a_15, .ref a_16, .ref a_17, .ref a_18, .int i_13, .int i_14, .int i_15, .int i_16, .int i_17, .int i_18, .ref a_19, .int i_19, .ref a_20])), (a_1, .inl (cy 1, 4, .inl g22)), (a_2, .inl (cy 1, 4, .inl g23)), (a_3, .inl (cy 2, 240, .inr (.inl f_2)))]) hS
              have rg23 : mm_ar g23 0 60 := by rw [eg23]; exact mm_ar_upd (mm_ar_wk h1 (by decide)) (mm_wk q21 (by decide)) _
              refine lv_iconst (v := 0) hx hb dX12_row_54 (by decide) ?_
              refine lv_istore (lv' := [(4, .int 0), (0, .ref a_0), (1, .int i_0), (2, .int i_1), (3, .int i_2)]) hx hb dX12_row_55 hl (by decide) rfl ?_
              clear hl
              clear ls
              intro ls hl
              have L57_122 : ∀ (n : Nat) (x57_4_121 : Int32) (z57_3_122 : Nat → Int64), mm_rg x57_4_121 0 60 → (60 - x57_4_121.toInt).toNat < n → ∀ (H : Heap) (locs : List Loc), va_P G vwCl [(a_0, .inr (12, [.int 0, .ref a_1, .ref a_2, .ref a_3, .ref a_4, .ref a_5, .int i_4, .int i_5, .int i_6, .int i_7, .int i_8, .long j_0, .int i_9, .int i_10, .int i_11, .int i_12, .ref a_6, .ref a_7, .ref a_8, .ref a_9, .ref a_10, .ref a_11, .ref a_12, .ref a_13, .ref a_14, .ref a_15, .ref a_16, .ref a_17, .ref a_18, .int i_13, .int i_14, .int i_15, .int i_16, .int i_17, .int i_18, .ref a_19, .int i_19, .ref a_20])), (a_1, .inl (cy 1, 4, .inl g22)), (a_2, .inl (cy 1, 4, .inl g23)), (a_3, .inl (cy 2, 240, .inr (.inl z57_3_122)))] H → va_D A [(a_0, .inr (12, [.int 0, .ref a_1, .ref a_2, .ref a_3, .ref a_4, .ref a_5, .int i_4, .int i_5, .int i_6, .int i_7, .int i_8, .long j_0, .int i_9, .int i_10, .int i_11, .int i_12, .ref a_6, .ref a_7, .ref a_8, .ref a_9, .ref a_10, .ref a_11, .ref a_12, .ref a_13, .ref a_14, .ref a_15, .ref a_16, .ref a_17, .ref a_18, .int i_13, .int i_14, .int i_15, .int i_16, .int i_17, .int i_18, .ref a_19, .int i_19, .ref a_20])), (a_1, .inl (cy 1, 4, .inl g22)), (a_2, .inl (cy 1, 4, .inl g23)), (a_3, .inl (cy 2, 240, .inr (.inl z57_3_122)))] → va_S A s.heap H locs → ∀ (ls : Array Slot), lv_has ls 5 [(4, .int x57_4_121), (0, .ref a_0), (1, .int i_0), (2, .int i_1), (3, .int i_2)] → W p l e R s m args below meth c H locs 0 0 Q (F0 m 57 ls []) := by
                intro n
                induction n with
                | zero => intro x57_4_121 z57_3_122 rx57_4_121 hm; exact absurd hm (Nat.not_lt_zero _)
                | succ n ih57 =>
                  intro x57_4_121 z57_3_122 rx57_4_121 hm57 H locs hP hD hS ls hl
                  refine lv_iload hx hb dX12_row_57 (lv_at hl 0 rfl) ?_
                  refine lv_iload_n hx hb dX12_row_59 rfl (lv_at hl 4 rfl) ?_
                  refine lv_icmp_ge (tgt := 82) hx hb dX12_row_60 (by decide) (fun c124 => ?_) (fun c124 => ?_)
                  · refine lv_iconst (v := 0) hx hb dX12_row_82 (by decide) ?_
                    subst hAe
                    rw [hQ]
                    exact W.iret (v := 0) hx hb hr (fun t ht hW => ⟨⟨0, (g22, g23, z57_3_122), rfl, ⟨rg22, rg23, (mm_wk mm_k0 (by decide))⟩, by rw [ht]; exact hP, hK.warm hW, hD⟩, hS.F ht⟩) hS.2.2 dX12_row_83
                  · have q125 := mm_ltL (h := 59) (mm_nle c124) rx57_4_121 q21 (by decide)
                    have q126 := mm_ltR (lo := 1) (mm_nle c124) rx57_4_121 q21 (by decide)
                    refine lv_aload_n hx hb dX12_row_63 rfl (lv_at hl 1 rfl) ?_
                    refine va_get (D := G) (ci := 12) (v := .ref a_3) (C := RX12) (T := TX12) (N := 38) hx hb hts (mm_i inlX12) hown hK.1 hP 0 rfl rfl 3 (by decide) (mm_h hts mm_w144) (fun _ h9 => h9) rfl dX12_row_64 ?_
                    refine lv_bipush (v := 60) hx hb dX12_row_67 (by decide) ?_
                    refine lv_iload_n hx hb dX12_row_69 rfl (lv_at hl 2 rfl) ?_
                    refine lv_imul hx hb dX12_row_70 ?_
                    refine lv_topi (fun v127 ev127 => ?_)
                    have rv127 : mm_rg v127 0 180 := mm_mul ev127 mm_k60 w2 (by decide) (by decide)
                    have tv127 := mm_mulEc ev127 mm_k60 w2 (by decide) (k := 60) (by decide)
                    refine lv_iload hx hb dX12_row_71 (lv_at hl 0 rfl) ?_
                    refine lv_iadd hx hb dX12_row_73 ?_
                    refine lv_topi (fun v128 ev128 => ?_)
                    have rv128 : mm_rg v128 0 239 := mm_add ev128 rv127 q125 (by decide) (by decide)
                    have tv128 := mm_addE ev128 rv127 q125 (by decide)
                    refine lv_lconst (v := 0) hx hb dX12_row_74 (by decide) ?_
                    refine va_last hx hb hK.1 hP hD hS 3 2 rfl rfl (mm_in rv128 (by decide)) dX12_row_75 ?_
                    clear hP hD hS
                    clear H locs
                    obtain ⟨g129, eg129⟩ : ∃ z : Nat → Int64, z = vp_updL z57_3_122 v128.toNatClampNeg 0 := ⟨_, rfl⟩
                    rw [← eg129]
                    intro H locs (hP : va_P G vwCl [(a_0, .inr (12, [.int 0, .ref a_1, .ref a_2, .ref a_3, .ref a_4, .ref a_5, .int i_4, .int i_5, .int i_6, .int i_7, .int i_8, .long j_0, .int i_9, .int i_10, .int i_11, .int i_12, .ref a_6, .ref a_7, .ref a_8, .ref a_9, .ref a_10, .ref a_11, .ref a_12, .ref a_13, .ref a_14, .ref a_15, .ref a_16, .ref a_17, .ref a_18, .int i_13, .int i_14, .int i_15, .int i_16, .int i_17, .int i_18, .ref a_19, .int i_19, .ref a_20])), (a_1, .inl (cy 1, 4, .inl g22)), (a_2, .inl (cy 1, 4, .inl g23)), (a_3, .inl (cy 2, 240, .inr (.inl g129)))] H) (hD : va_D A [(a_0, .inr (12, [.int 0, .ref a_1, .ref a_2, .ref a_3, .ref a_4, .ref a_5, .int i_4, .int i_5, .int i_6, .int i_7, .int i_8, .long j_0, .int i_9, .int i_10, .int i_11, .int i_12, .ref a_6, .ref a_7, .ref a_8, .ref a_9, .ref a_10, .ref a_11, .ref a_12, .ref a_13, .ref a_14, .ref a_15, .ref a_16, .ref a_17, .ref a_18, .int i_13, .int i_14, .int i_15, .int i_16, .int i_17, .int i_18, .ref a_19, .int i_19, .ref a_20])), (a_1, .inl (cy 1, 4, .inl g22)), (a_2, .inl (cy 1, 4, .inl g23)), (a_3, .inl (cy 2, 240, .inr (.inl g129)))]) hS
                    obtain ⟨v130, ev130⟩ : ∃ y : Int32, y = x57_4_121 + 1 := ⟨_, rfl⟩
                    refine lv_iinc (v := v130) (lv' := [(4, .int v130), (0, .ref a_0), (1, .int i_0), (2, .int i_1), (3, .int i_2)]) hx hb dX12_row_76 hl (k := 0) rfl (by rw [ev130]; rfl) (by decide) rfl ?_
                    clear hl
                    clear ls
                    intro ls hl
                    have rv130 : mm_rg v130 1 60 := mm_add ev130 q125 mm_k1 (by decide) (by decide)
                    have tv130 := mm_addEc ev130 q125 mm_k1 (by decide) (k := 1) (by decide)
                    refine lv_goto (tgt := 57) hx hb dX12_row_79 (by decide) ?_
                    exact ih57 v130 g129 (mm_wk rv130 (by decide)) (mm_mu hm57 tv130 (by decide) (rv130).2 (by decide)) H locs hP hD hS ls (lv_sub hl [0, 1, 2, 3, 4] rfl)
              exact L57_122 _ 0 f_2 (mm_wk mm_k0 (by decide)) (Nat.lt_succ_self _) H locs hP hD hS ls (lv_sub hl [0, 1, 2, 3, 4] rfl)
            · have q131 := mm_ltL (h := (-1)) (mm_nle c20) q19 mm_k0 (by decide)
              refine lv_bipush (v := (-3)) hx hb dX12_row_37 (by decide) ?_
              subst hAe
              rw [hQ]
              exact W.iret (v := (-3)) hx hb hr (fun t ht hW => ⟨⟨(-3), (f_0, f_1, f_2), rfl, ⟨h0, h1, (mm_wk mm_km3 (by decide))⟩, by rw [ht]; exact hP, hK.warm hW, hD⟩, hS.F ht⟩) hS.2.2 dX12_row_39
          · have q132 := mm_ltR (lo := 61) (mm_nle c18) mm_k60 (mm_top i_2) (by decide)
            refine lv_bipush (v := (-2)) hx hb dX12_row_30 (by decide) ?_
            subst hAe
            rw [hQ]
            exact W.iret (v := (-2)) hx hb hr (fun t ht hW => ⟨⟨(-2), (f_0, f_1, f_2), rfl, ⟨h0, h1, (mm_wk mm_km2 (by decide))⟩, by rw [ht]; exact hP, hK.warm hW, hD⟩, hS.F ht⟩) hS.2.2 dX12_row_32

set_option maxHeartbeats 4000000 in
set_option maxRecDepth 100000 in
theorem M380_X12_cut (l : Launch) (G : va_G) (cy : Nat → ClassId) (sz : Nat) (j_0 : Int64) (i_0 : Int32) (h0 : mm_rg i_0 0 9)  : mm_CL l yX12_cut (mm_ws yX12_cut cX12_cut 3 (some .long)) ({ frames := 0, cells := 0, slots := 0, locals := 0 } : Room) G cy sz [] [.long j_0, .int i_0] (fun u : Unit => []) (fun (r : Int64) (u : Unit) => True) 0 0 := by
  refine mm_begin (lv := [(0, .long j_0), (2, .int i_0)]) (by decide) (Nat.le_of_ble_eq_true rfl) rfl ?_
  intro p e s m below meth c A ls R args Q H locs hRe hQ hAe hx hb hr hlocks hml hown hnm hts hsz hA hS hP hK hD hZ hl
  have hRf : R.frames = 0 := by rw [hRe]
  have hRl : R.locals = 0 := by rw [hRe]
  have hRc : R.cells = 0 := by rw [hRe]
  have hRs : R.slots = 0 := by rw [hRe]
  refine lv_iload_n hx hb dX12_cut_0 rfl (lv_at hl 1 rfl) ?_
  refine lv_if_ne (tgt := 11) hx hb dX12_cut_1 (by decide) (fun c1 => ?_) (fun c1 => ?_)
  · have q2 := mm_neL (lo := 1) (mm_ne c1) h0 mm_k0 (by decide) (by decide)
    refine lv_iload_n hx hb dX12_cut_11 rfl (lv_at hl 1 rfl) ?_
    refine lv_iconst (v := 1) hx hb dX12_cut_12 (by decide) ?_
    refine lv_icmp_ne (tgt := 23) hx hb dX12_cut_13 (by decide) (fun c3 => ?_) (fun c3 => ?_)
    · have q4 := mm_neL (lo := 2) (mm_ne c3) q2 mm_k1 (by decide) (by decide)
      refine lv_iload_n hx hb dX12_cut_23 rfl (lv_at hl 1 rfl) ?_
      refine lv_iconst (v := 2) hx hb dX12_cut_24 (by decide) ?_
      refine lv_icmp_ne (tgt := 34) hx hb dX12_cut_25 (by decide) (fun c5 => ?_) (fun c5 => ?_)
      · have q6 := mm_neL (lo := 3) (mm_ne c5) q4 mm_k2 (by decide) (by decide)
        refine lv_lload_n hx hb dX12_cut_34 rfl (lv_at hl 0 rfl) ?_
        subst hAe
        rw [hQ]
        exact W.lret (v := j_0) hx hb hr (fun t ht hW => ⟨⟨j_0, (), rfl, trivial, by rw [ht]; exact hP, hK.warm hW, hD⟩, hS.F ht⟩) hS.2.2 dX12_cut_35
      · have q7 := mm_eqI (lo := 2) (hi := 2) c5 q4 mm_k2 (by decide)
        refine lv_lload_n hx hb dX12_cut_28 rfl (lv_at hl 0 rfl) ?_
        obtain ⟨v8, ev8⟩ : ∃ y : Int32, y = j_0.toInt32 := ⟨_, rfl⟩
        refine lv_l2i hx hb dX12_cut_29 ev8.symm ?_
        obtain ⟨v9, ev9⟩ : ∃ y : Int64, y = v8.toInt64 := ⟨_, rfl⟩
        refine lv_i2l hx hb dX12_cut_30 ev9.symm ?_
        have rv9 : mm_rl v9 (-2147483648) 2147483647 := mm_i2l ev9 (mm_top v8)
        refine lv_goto (tgt := 35) hx hb dX12_cut_31 (by decide) ?_
        subst hAe
        rw [hQ]
        exact W.lret (v := v9) hx hb hr (fun t ht hW => ⟨⟨v9, (), rfl, trivial, by rw [ht]; exact hP, hK.warm hW, hD⟩, hS.F ht⟩) hS.2.2 dX12_cut_35
    · have q10 := mm_eqI (lo := 1) (hi := 1) c3 q2 mm_k1 (by decide)
      refine lv_lload_n hx hb dX12_cut_16 rfl (lv_at hl 0 rfl) ?_
      obtain ⟨v11, ev11⟩ : ∃ y : Int32, y = j_0.toInt32 := ⟨_, rfl⟩
      refine lv_l2i hx hb dX12_cut_17 ev11.symm ?_
      obtain ⟨v12, ev12⟩ : ∃ y : Int32, y = v11.toInt16.toInt32 := ⟨_, rfl⟩
      refine lv_i2s hx hb dX12_cut_18 ev12.symm ?_
      obtain ⟨v13, ev13⟩ : ∃ y : Int64, y = v12.toInt64 := ⟨_, rfl⟩
      refine lv_i2l hx hb dX12_cut_19 ev13.symm ?_
      have rv13 : mm_rl v13 (-2147483648) 2147483647 := mm_i2l ev13 (mm_top v12)
      refine lv_goto (tgt := 35) hx hb dX12_cut_20 (by decide) ?_
      subst hAe
      rw [hQ]
      exact W.lret (v := v13) hx hb hr (fun t ht hW => ⟨⟨v13, (), rfl, trivial, by rw [ht]; exact hP, hK.warm hW, hD⟩, hS.F ht⟩) hS.2.2 dX12_cut_35
  · have q14 := mm_eqI (lo := 0) (hi := 0) c1 h0 mm_k0 (by decide)
    refine lv_lload_n hx hb dX12_cut_4 rfl (lv_at hl 0 rfl) ?_
    obtain ⟨v15, ev15⟩ : ∃ y : Int32, y = j_0.toInt32 := ⟨_, rfl⟩
    refine lv_l2i hx hb dX12_cut_5 ev15.symm ?_
    obtain ⟨v16, ev16⟩ : ∃ y : Int32, y = v15.toInt8.toInt32 := ⟨_, rfl⟩
    refine lv_i2b hx hb dX12_cut_6 ev16.symm ?_
    have rv16 : mm_rg v16 (-128) 127 := mm_i2b ev16
    obtain ⟨v17, ev17⟩ : ∃ y : Int64, y = v16.toInt64 := ⟨_, rfl⟩
    refine lv_i2l hx hb dX12_cut_7 ev17.symm ?_
    have rv17 : mm_rl v17 (-128) 127 := mm_i2l ev17 rv16
    refine lv_goto (tgt := 35) hx hb dX12_cut_8 (by decide) ?_
    subst hAe
    rw [hQ]
    exact W.lret (v := v17) hx hb hr (fun t ht hW => ⟨⟨v17, (), rfl, trivial, by rw [ht]; exact hP, hK.warm hW, hD⟩, hS.F ht⟩) hS.2.2 dX12_cut_35

set_option maxHeartbeats 4000000 in
set_option maxRecDepth 100000 in
theorem M381_X12_write (l : Launch) (G : va_G) (cy : Nat → ClassId) (sz : Nat) (a_0 : Nat) (i_0 : Int32) (i_1 : Int32) (j_0 : Int64) (i_2 : Int32) (a_1 : Nat) (a_2 : Nat) (a_3 : Nat) (a_4 : Nat) (a_5 : Nat) (i_3 : Int32) (i_4 : Int32) (i_5 : Int32) (i_6 : Int32) (i_7 : Int32) (j_1 : Int64) (i_8 : Int32) (i_9 : Int32) (i_10 : Int32) (i_11 : Int32) (a_6 : Nat) (a_7 : Nat) (a_8 : Nat) (a_9 : Nat) (a_10 : Nat) (a_11 : Nat) (a_12 : Nat) (a_13 : Nat) (a_14 : Nat) (a_15 : Nat) (a_16 : Nat) (a_17 : Nat) (a_18 : Nat) (i_12 : Int32) (i_13 : Int32) (i_14 : Int32) (i_15 : Int32) (i_16 : Int32) (i_17 : Int32) (a_19 : Nat) (i_18 : Int32) (a_20 : Nat) (f_0 : Nat → Int32) (f_1 : Nat → Int32) (f_2 : Nat → Int64) (h0 : mm_ar f_0 (-1) 3) (h1 : mm_ar f_1 0 60)  : mm_CI l yX12_write (mm_ws yX12_write cX12_write 5 (some .int)) ({ frames := 2, cells := 0, slots := 0, locals := 45 } : Room) G cy sz [(a_0, .inr (12, [.int i_2, .ref a_1, .ref a_2, .ref a_3, .ref a_4, .ref a_5, .int i_3, .int i_4, .int i_5, .int i_6, .int i_7, .long j_1, .int i_8, .int i_9, .int i_10, .int i_11, .ref a_6, .ref a_7, .ref a_8, .ref a_9, .ref a_10, .ref a_11, .ref a_12, .ref a_13, .ref a_14, .ref a_15, .ref a_16, .ref a_17, .ref a_18, .int i_12, .int i_13, .int i_14, .int i_15, .int i_16, .int i_17, .ref a_19, .int i_18, .ref a_20])), (a_1, .inl (cy 1, 4, .inl f_0)), (a_2, .inl (cy 1, 4, .inl f_1)), (a_3, .inl (cy 2, 240, .inr (.inl f_2)))] [.ref a_0, .int i_0, .int i_1, .long j_0] (fun u : (Nat → Int64) => [(a_0, .inr (12, [.int 0, .ref a_1, .ref a_2, .ref a_3, .ref a_4, .ref a_5, .int i_3, .int i_4, .int i_5, .int i_6, .int i_7, .long j_1, .int i_8, .int i_9, .int i_10, .int i_11, .ref a_6, .ref a_7, .ref a_8, .ref a_9, .ref a_10, .ref a_11, .ref a_12, .ref a_13, .ref a_14, .ref a_15, .ref a_16, .ref a_17, .ref a_18, .int i_12, .int i_13, .int i_14, .int i_15, .int i_16, .int i_17, .ref a_19, .int i_18, .ref a_20])), (a_1, .inl (cy 1, 4, .inl f_0)), (a_2, .inl (cy 1, 4, .inl f_1)), (a_3, .inl (cy 2, 240, .inr (.inl u)))]) (fun (r : Int32) (u : (Nat → Int64)) => mm_rg r (-7) 0) 0 0 := by
  refine mm_begin (lv := [(0, .ref a_0), (1, .int i_0), (2, .int i_1), (3, .long j_0)]) (by decide) (Nat.le_of_ble_eq_true rfl) rfl ?_
  intro p e s m below meth c A ls R args Q H locs hRe hQ hAe hx hb hr hlocks hml hown hnm hts hsz hA hS hP hK hD hZ hl
  have hRf : R.frames = 2 := by rw [hRe]
  have hRl : R.locals = 45 := by rw [hRe]
  have hRc : R.cells = 0 := by rw [hRe]
  have hRs : R.slots = 0 := by rw [hRe]
  refine lv_aload_n hx hb dX12_write_0 rfl (lv_at hl 0 rfl) ?_
  refine lv_iconst (v := 0) hx hb dX12_write_1 (by decide) ?_
  refine va_put (D := G) (ci := 12) (v := .int 0) (ty := tyX12 0) (C := RX12) (T := TX12) (N := 38) hx hb hts (mm_i inlX12) tyX12 tyX12_ok nmX12 hown hK.1 hP hD hS 0 rfl rfl 0 (by decide) (mm_h hts mm_w177) (fun _ h9 => h9) rfl (tyX12_ok 0 (by decide)) rfl rfl (Nat.le_of_ble_eq_true rfl) dX12_write_2 ?_
  clear hP hD hS
  clear H locs
  intro H locs (hP : va_P G vwCl [(a_0, .inr (12, [.int 0, .ref a_1, .ref a_2, .ref a_3, .ref a_4, .ref a_5, .int i_3, .int i_4, .int i_5, .int i_6, .int i_7, .long j_1, .int i_8, .int i_9, .int i_10, .int i_11, .ref a_6, .ref a_7, .ref a_8, .ref a_9, .ref a_10, .ref a_11, .ref a_12, .ref a_13, .ref a_14, .ref a_15, .ref a_16, .ref a_17, .ref a_18, .int i_12, .int i_13, .int i_14, .int i_15, .int i_16, .int i_17, .ref a_19, .int i_18, .ref a_20])), (a_1, .inl (cy 1, 4, .inl f_0)), (a_2, .inl (cy 1, 4, .inl f_1)), (a_3, .inl (cy 2, 240, .inr (.inl f_2)))] H) (hD : va_D A [(a_0, .inr (12, [.int 0, .ref a_1, .ref a_2, .ref a_3, .ref a_4, .ref a_5, .int i_3, .int i_4, .int i_5, .int i_6, .int i_7, .long j_1, .int i_8, .int i_9, .int i_10, .int i_11, .ref a_6, .ref a_7, .ref a_8, .ref a_9, .ref a_10, .ref a_11, .ref a_12, .ref a_13, .ref a_14, .ref a_15, .ref a_16, .ref a_17, .ref a_18, .int i_12, .int i_13, .int i_14, .int i_15, .int i_16, .int i_17, .ref a_19, .int i_18, .ref a_20])), (a_1, .inl (cy 1, 4, .inl f_0)), (a_2, .inl (cy 1, 4, .inl f_1)), (a_3, .inl (cy 2, 240, .inr (.inl f_2)))]) hS
  refine lv_iload_n hx hb dX12_write_5 rfl (lv_at hl 1 rfl) ?_
  refine mm_finir (va_runS (As := [.int i_0]) (rest := []) ⟨hx, hb, hml, hown, hts⟩ (M197_X12_isSlot l G cy H.size i_0 ) (va_cwS 1 hts (mm_gS mm_w1269 mm_w1270 mm_w5 mm_w1271) rfl rfl rfl hs_X12_isSlot ⟨by rw [hRf]; exact Nat.le_of_ble_eq_true rfl, by rw [hRl]; exact Nat.le_of_ble_eq_true rfl⟩) (mm_preS hK hZ hS hA hP hD [] rfl rfl) rfl rfl hl.1 rfl (lv_room (Nat.le_of_ble_eq_true rfl)) dX12_write_6 ⟨by rw [hRc]; exact Nat.le_of_ble_eq_true rfl, by rw [hRs]; exact Nat.le_of_ble_eq_true rfl⟩) hP hD hS hA [] rfl (fun _ => rfl) ?_
  clear hP hD hS
  clear H locs
  intro v1 _u H locs hw hP hD hS
  rcases hw with rfl | ⟨rfl, w2⟩
  · refine lv_if_ne (tgt := 15) hx hb dX12_write_9 (by decide) (fun c3 => ?_) (fun c3 => ?_)
    · exact absurd rfl (mm_ne c3)
    · refine lv_bipush (v := (-2)) hx hb dX12_write_12 (by decide) ?_
      subst hAe
      rw [hQ]
      exact W.iret (v := (-2)) hx hb hr (fun t ht hW => ⟨⟨(-2), f_2, rfl, (mm_wk mm_km2 (by decide)), by rw [ht]; exact hP, hK.warm hW, hD⟩, hS.F ht⟩) hS.2.2 dX12_write_14
  · refine lv_if_ne (tgt := 15) hx hb dX12_write_9 (by decide) (fun c4 => ?_) (fun c4 => ?_)
    · refine lv_aload_n hx hb dX12_write_15 rfl (lv_at hl 0 rfl) ?_
      refine va_get (D := G) (ci := 12) (v := .ref a_1) (C := RX12) (T := TX12) (N := 38) hx hb hts (mm_i inlX12) hown hK.1 hP 0 rfl rfl 1 (by decide) (mm_h hts mm_w142) (fun _ h9 => h9) rfl dX12_write_16 ?_
      refine lv_iload_n hx hb dX12_write_19 rfl (lv_at hl 1 rfl) ?_
      refine va_iald hx hb hK.1 hP 1 1 rfl rfl (mm_in w2 (by decide)) dX12_write_20 ?_
      refine lv_topi (fun v5 ev5 => ?_)
      have rv5 : mm_rg v5 (-1) 3 := mm_eqv ev5 (h0 _)
      refine lv_iconst (v := (-1)) hx hb dX12_write_21 (by decide) ?_
      refine lv_icmp_ne (tgt := 28) hx hb dX12_write_22 (by decide) (fun c6 => ?_) (fun c6 => ?_)
      · have q7 := mm_neL (lo := 0) (mm_ne c6) rv5 mm_km1 (by decide) (by decide)
        refine lv_iload_n hx hb dX12_write_28 rfl (lv_at hl 2 rfl) ?_
        obtain ⟨v8, ev8⟩ : ∃ y : Int64, y = i_1.toInt64 := ⟨_, rfl⟩
        refine lv_i2l hx hb dX12_write_29 ev8.symm ?_
        have rv8 : mm_rl v8 (-2147483648) 2147483647 := mm_i2l ev8 (mm_top i_1)
        refine lv_lconst (v := 0) hx hb dX12_write_30 (by decide) ?_
        refine lv_aload_n hx hb dX12_write_31 rfl (lv_at hl 0 rfl) ?_
        refine va_get (D := G) (ci := 12) (v := .ref a_2) (C := RX12) (T := TX12) (N := 38) hx hb hts (mm_i inlX12) hown hK.1 hP 0 rfl rfl 2 (by decide) (mm_h hts mm_w143) (fun _ h9 => h9) rfl dX12_write_32 ?_
        refine lv_iload_n hx hb dX12_write_35 rfl (lv_at hl 1 rfl) ?_
        refine va_iald hx hb hK.1 hP 2 1 rfl rfl (mm_in w2 (by decide)) dX12_write_36 ?_
        refine lv_topi (fun v9 ev9 => ?_)
        have rv9 : mm_rg v9 0 60 := mm_eqv ev9 (h1 _)
        refine lv_iconst (v := 1) hx hb dX12_write_37 (by decide) ?_
        refine lv_isub hx hb dX12_write_38 ?_
        refine lv_topi (fun v10 ev10 => ?_)
        have rv10 : mm_rg v10 (-1) 59 := mm_sub ev10 rv9 mm_k1 (by decide) (by decide)
        have tv10 := mm_subEc ev10 rv9 mm_k1 (by decide) (k := (-1)) (by decide)
        obtain ⟨v11, ev11⟩ : ∃ y : Int64, y = v10.toInt64 := ⟨_, rfl⟩
        refine lv_i2l hx hb dX12_write_39 ev11.symm ?_
        have rv11 : mm_rl v11 (-1) 59 := mm_i2l ev11 rv10
        refine mm_finir (va_runS (As := [.long v8, .long 0, .long v11]) (rest := []) ⟨hx, hb, hml, hown, hts⟩ (M7_X12_in l G cy H.size v8 v11 ) (va_cwS 3 hts (mm_gS mm_w191 mm_w192 mm_w5 mm_w193) rfl rfl rfl hs_X12_in ⟨by rw [hRf]; exact Nat.le_of_ble_eq_true rfl, by rw [hRl]; exact Nat.le_of_ble_eq_true rfl⟩) (mm_preS hK hZ hS hA hP hD [] rfl rfl) rfl rfl hl.1 rfl (lv_room (Nat.le_of_ble_eq_true rfl)) dX12_write_40 ⟨by rw [hRc]; exact Nat.le_of_ble_eq_true rfl, by rw [hRs]; exact Nat.le_of_ble_eq_true rfl⟩) hP hD hS hA [] rfl (fun _ => rfl) ?_
        clear hP hD hS
        clear H locs
        intro v12 _u H locs hw hP hD hS
        rcases hw with ⟨rfl, w13⟩ | ⟨rfl, w14, w15, w16, w17⟩
        · refine lv_if_ne (tgt := 49) hx hb dX12_write_43 (by decide) (fun c18 => ?_) (fun c18 => ?_)
          · exact absurd rfl (mm_ne c18)
          · refine lv_bipush (v := (-7)) hx hb dX12_write_46 (by decide) ?_
            subst hAe
            rw [hQ]
            exact W.iret (v := (-7)) hx hb hr (fun t ht hW => ⟨⟨(-7), f_2, rfl, (mm_wk mm_km7 (by decide)), by rw [ht]; exact hP, hK.warm hW, hD⟩, hS.F ht⟩) hS.2.2 dX12_write_48
        · have q19 := mm_meetl (lo := 0) (hi := 2147483647) w14 rv8 (by decide)
          have q20 := mm_meet (lo := 0) (hi := 2147483647) (mm_l2x ev8 q19) (mm_top i_1) (by decide)
          have q21 := mm_meetl (lo := 0) (hi := 59) w15 rv11 (by decide)
          have q22 := mm_meet (lo := 0) (hi := 59) (mm_l2x ev11 q21) rv10 (by decide)
          have q23 := mm_leLl w16 q19 q21
          have q24 := mm_meet (lo := 0) (hi := 59) (mm_l2x ev8 q23) q20 (by decide)
          have w25 : (i_1 : Int32).toInt ≤ (v10 : Int32).toInt := by have := (mm_i2lE ev8); have := (mm_i2lE ev11); have := w16; omega
          have q26 : mm_rg v9 1 60 := mm_unadd tv10 q22 rv9 (by decide) (by decide)
          refine lv_if_ne (tgt := 49) hx hb dX12_write_43 (by decide) (fun c27 => ?_) (fun c27 => ?_)
          · refine lv_aload_n hx hb dX12_write_49 rfl (lv_at hl 0 rfl) ?_
            refine va_get (D := G) (ci := 12) (v := .ref a_3) (C := RX12) (T := TX12) (N := 38) hx hb hts (mm_i inlX12) hown hK.1 hP 0 rfl rfl 3 (by decide) (mm_h hts mm_w144) (fun _ h9 => h9) rfl dX12_write_50 ?_
            refine lv_bipush (v := 60) hx hb dX12_write_53 (by decide) ?_
            refine lv_iload_n hx hb dX12_write_55 rfl (lv_at hl 1 rfl) ?_
            refine lv_imul hx hb dX12_write_56 ?_
            refine lv_topi (fun v28 ev28 => ?_)
            have rv28 : mm_rg v28 0 180 := mm_mul ev28 mm_k60 w2 (by decide) (by decide)
            have tv28 := mm_mulEc ev28 mm_k60 w2 (by decide) (k := 60) (by decide)
            refine lv_iload_n hx hb dX12_write_57 rfl (lv_at hl 2 rfl) ?_
            refine lv_iadd hx hb dX12_write_58 ?_
            refine lv_topi (fun v29 ev29 => ?_)
            have rv29 : mm_rg v29 0 239 := mm_add ev29 rv28 q24 (by decide) (by decide)
            have tv29 := mm_addE ev29 rv28 q24 (by decide)
            refine lv_lload_n hx hb dX12_write_59 rfl (lv_at hl 3 rfl) ?_
            refine lv_aload_n hx hb dX12_write_60 rfl (lv_at hl 0 rfl) ?_
            refine va_get (D := G) (ci := 12) (v := .ref a_1) (C := RX12) (T := TX12) (N := 38) hx hb hts (mm_i inlX12) hown hK.1 hP 0 rfl rfl 1 (by decide) (mm_h hts mm_w142) (fun _ h9 => h9) rfl dX12_write_61 ?_
            refine lv_iload_n hx hb dX12_write_64 rfl (lv_at hl 1 rfl) ?_
            refine va_iald hx hb hK.1 hP 1 1 rfl rfl (mm_in w2 (by decide)) dX12_write_65 ?_
            refine lv_topi (fun v30 ev30 => ?_)
            have rv30 : mm_rg v30 (-1) 3 := mm_eqv ev30 (h0 _)
            obtain rfl : v5 = v30 := ev5.trans ev30.symm
            refine mm_finlr (va_runS (As := [.long j_0, .int v5]) (rest := [.int v29, .ref a_3]) ⟨hx, hb, hml, hown, hts⟩ (M380_X12_cut l G cy H.size j_0 v5 (mm_wk q7 (by decide))) (va_cwS 2 hts (mm_gS mm_w1703 mm_w1704 mm_w5 mm_w1705) rfl rfl rfl hs_X12_cut ⟨by rw [hRf]; exact Nat.le_of_ble_eq_true rfl, by rw [hRl]; exact Nat.le_of_ble_eq_true rfl⟩) (mm_preS hK hZ hS hA hP hD [] rfl rfl) rfl rfl hl.1 rfl (lv_room (Nat.le_of_ble_eq_true rfl)) dX12_write_66 ⟨by rw [hRc]; exact Nat.le_of_ble_eq_true rfl, by rw [hRs]; exact Nat.le_of_ble_eq_true rfl⟩) hP hD hS hA [] rfl (fun _ => rfl) ?_
            clear hP hD hS
            clear H locs
            intro v31 _u H locs hw hP hD hS
            refine va_last hx hb hK.1 hP hD hS 3 2 rfl rfl (mm_in rv29 (by decide)) dX12_write_69 ?_
            clear hP hD hS
            clear H locs
            obtain ⟨g32, eg32⟩ : ∃ z : Nat → Int64, z = vp_updL f_2 v29.toNatClampNeg v31 := ⟨_, rfl⟩
            rw [← eg32]
            intro H locs (hP : va_P G vwCl [(a_0, .inr (12, [.int 0, .ref a_1, .ref a_2, .ref a_3, .ref a_4, .ref a_5, .int i_3, .int i_4, .int i_5, .int i_6, .int i_7, .long j_1, .int i_8, .int i_9, .int i_10, .int i_11, .ref a_6, .ref a_7, .ref a_8, .ref a_9, .ref a_10, .ref a_11, .ref a_12, .ref a_13, .ref a_14, .ref a_15, .ref a_16, .ref a_17, .ref a_18, .int i_12, .int i_13, .int i_14, .int i_15, .int i_16, .int i_17, .ref a_19, .int i_18, .ref a_20])), (a_1, .inl (cy 1, 4, .inl f_0)), (a_2, .inl (cy 1, 4, .inl f_1)), (a_3, .inl (cy 2, 240, .inr (.inl g32)))] H) (hD : va_D A [(a_0, .inr (12, [.int 0, .ref a_1, .ref a_2, .ref a_3, .ref a_4, .ref a_5, .int i_3, .int i_4, .int i_5, .int i_6, .int i_7, .long j_1, .int i_8, .int i_9, .int i_10, .int i_11, .ref a_6, .ref a_7, .ref a_8, .ref a_9, .ref a_10, .ref a_11, .ref a_12, .ref a_13, .ref a_14, .ref a_15, .ref a_16, .ref a_17, .ref a_18, .int i_12, .int i_13, .int i_14, .int i_15, .int i_16, .int i_17, .ref a_19, .int i_18, .ref a_20])), (a_1, .inl (cy 1, 4, .inl f_0)), (a_2, .inl (cy 1, 4, .inl f_1)), (a_3, .inl (cy 2, 240, .inr (.inl g32)))]) hS
            refine lv_iconst (v := 0) hx hb dX12_write_70 (by decide) ?_
            subst hAe
            rw [hQ]
            exact W.iret (v := 0) hx hb hr (fun t ht hW => ⟨⟨0, g32, rfl, (mm_wk mm_k0 (by decide)), by rw [ht]; exact hP, hK.warm hW, hD⟩, hS.F ht⟩) hS.2.2 dX12_write_71
          · exact mm_eqN c27.symm mm_k0 mm_k1 (by decide)
      · have q33 := mm_eqI (lo := (-1)) (hi := (-1)) c6 rv5 mm_km1 (by decide)
        refine lv_bipush (v := (-6)) hx hb dX12_write_25 (by decide) ?_
        subst hAe
        rw [hQ]
        exact W.iret (v := (-6)) hx hb hr (fun t ht hW => ⟨⟨(-6), f_2, rfl, (mm_wk mm_km6 (by decide)), by rw [ht]; exact hP, hK.warm hW, hD⟩, hS.F ht⟩) hS.2.2 dX12_write_27
    · exact mm_eqN c4.symm mm_k0 mm_k1 (by decide)

set_option maxHeartbeats 4000000 in
set_option maxRecDepth 100000 in
theorem M382_X12_paste (l : Launch) (G : va_G) (cy : Nat → ClassId) (sz : Nat) (a_0 : Nat) (i_0 : Int32) (i_1 : Int32) (i_2 : Int32) (i_3 : Int32) (i_4 : Int32) (i_5 : Int32) (a_1 : Nat) (a_2 : Nat) (a_3 : Nat) (a_4 : Nat) (a_5 : Nat) (i_6 : Int32) (i_7 : Int32) (i_8 : Int32) (i_9 : Int32) (i_10 : Int32) (j_0 : Int64) (i_11 : Int32) (i_12 : Int32) (i_13 : Int32) (i_14 : Int32) (a_6 : Nat) (a_7 : Nat) (a_8 : Nat) (a_9 : Nat) (a_10 : Nat) (a_11 : Nat) (a_12 : Nat) (a_13 : Nat) (a_14 : Nat) (a_15 : Nat) (a_16 : Nat) (a_17 : Nat) (a_18 : Nat) (i_15 : Int32) (i_16 : Int32) (i_17 : Int32) (i_18 : Int32) (i_19 : Int32) (i_20 : Int32) (a_19 : Nat) (i_21 : Int32) (a_20 : Nat) (f_0 : Nat → Int32) (f_1 : Nat → Int32) (f_2 : Nat → Int64) (f_3 : Nat → Int64) (h0 : mm_ar f_0 (-1) 3) (h1 : mm_ar f_1 0 60)  : mm_CI l yX12_paste (mm_ws yX12_paste cX12_paste 7 (some .int)) ({ frames := 2, cells := 0, slots := 0, locals := 45 } : Room) G cy sz [(a_0, .inr (12, [.int i_5, .ref a_1, .ref a_2, .ref a_3, .ref a_4, .ref a_5, .int i_6, .int i_7, .int i_8, .int i_9, .int i_10, .long j_0, .int i_11, .int i_12, .int i_13, .int i_14, .ref a_6, .ref a_7, .ref a_8, .ref a_9, .ref a_10, .ref a_11, .ref a_12, .ref a_13, .ref a_14, .ref a_15, .ref a_16, .ref a_17, .ref a_18, .int i_15, .int i_16, .int i_17, .int i_18, .int i_19, .int i_20, .ref a_19, .int i_21, .ref a_20])), (a_1, .inl (cy 1, 4, .inl f_0)), (a_2, .inl (cy 1, 4, .inl f_1)), (a_3, .inl (cy 2, 240, .inr (.inl f_2))), (a_4, .inl (cy 2, 60, .inr (.inl f_3)))] [.ref a_0, .int i_0, .int i_1, .int i_2, .int i_3, .int i_4] (fun u : (Nat → Int64) × (Nat → Int64) => [(a_0, .inr (12, [.int 0, .ref a_1, .ref a_2, .ref a_3, .ref a_4, .ref a_5, .int i_6, .int i_7, .int i_8, .int i_9, .int i_10, .long j_0, .int i_11, .int i_12, .int i_13, .int i_14, .ref a_6, .ref a_7, .ref a_8, .ref a_9, .ref a_10, .ref a_11, .ref a_12, .ref a_13, .ref a_14, .ref a_15, .ref a_16, .ref a_17, .ref a_18, .int i_15, .int i_16, .int i_17, .int i_18, .int i_19, .int i_20, .ref a_19, .int i_21, .ref a_20])), (a_1, .inl (cy 1, 4, .inl f_0)), (a_2, .inl (cy 1, 4, .inl f_1)), (a_3, .inl (cy 2, 240, .inr (.inl u.1))), (a_4, .inl (cy 2, 60, .inr (.inl u.2)))]) (fun (r : Int32) (u : (Nat → Int64) × (Nat → Int64)) => mm_rg r (-8) 0) 0 0 := by
  refine mm_begin (lv := [(0, .ref a_0), (1, .int i_0), (2, .int i_1), (3, .int i_2), (4, .int i_3), (5, .int i_4)]) (by decide) (Nat.le_of_ble_eq_true rfl) rfl ?_
  intro p e s m below meth c A ls R args Q H locs hRe hQ hAe hx hb hr hlocks hml hown hnm hts hsz hA hS hP hK hD hZ hl
  have hRf : R.frames = 2 := by rw [hRe]
  have hRl : R.locals = 45 := by rw [hRe]
  have hRc : R.cells = 0 := by rw [hRe]
  have hRs : R.slots = 0 := by rw [hRe]
  refine lv_aload_n hx hb dX12_paste_0 rfl (lv_at hl 0 rfl) ?_
  refine lv_iconst (v := 0) hx hb dX12_paste_1 (by decide) ?_
  refine va_put (D := G) (ci := 12) (v := .int 0) (ty := tyX12 0) (C := RX12) (T := TX12) (N := 38) hx hb hts (mm_i inlX12) tyX12 tyX12_ok nmX12 hown hK.1 hP hD hS 0 rfl rfl 0 (by decide) (mm_h hts mm_w177) (fun _ h9 => h9) rfl (tyX12_ok 0 (by decide)) rfl rfl (Nat.le_of_ble_eq_true rfl) dX12_paste_2 ?_
  clear hP hD hS
  clear H locs
  intro H locs (hP : va_P G vwCl [(a_0, .inr (12, [.int 0, .ref a_1, .ref a_2, .ref a_3, .ref a_4, .ref a_5, .int i_6, .int i_7, .int i_8, .int i_9, .int i_10, .long j_0, .int i_11, .int i_12, .int i_13, .int i_14, .ref a_6, .ref a_7, .ref a_8, .ref a_9, .ref a_10, .ref a_11, .ref a_12, .ref a_13, .ref a_14, .ref a_15, .ref a_16, .ref a_17, .ref a_18, .int i_15, .int i_16, .int i_17, .int i_18, .int i_19, .int i_20, .ref a_19, .int i_21, .ref a_20])), (a_1, .inl (cy 1, 4, .inl f_0)), (a_2, .inl (cy 1, 4, .inl f_1)), (a_3, .inl (cy 2, 240, .inr (.inl f_2))), (a_4, .inl (cy 2, 60, .inr (.inl f_3)))] H) (hD : va_D A [(a_0, .inr (12, [.int 0, .ref a_1, .ref a_2, .ref a_3, .ref a_4, .ref a_5, .int i_6, .int i_7, .int i_8, .int i_9, .int i_10, .long j_0, .int i_11, .int i_12, .int i_13, .int i_14, .ref a_6, .ref a_7, .ref a_8, .ref a_9, .ref a_10, .ref a_11, .ref a_12, .ref a_13, .ref a_14, .ref a_15, .ref a_16, .ref a_17, .ref a_18, .int i_15, .int i_16, .int i_17, .int i_18, .int i_19, .int i_20, .ref a_19, .int i_21, .ref a_20])), (a_1, .inl (cy 1, 4, .inl f_0)), (a_2, .inl (cy 1, 4, .inl f_1)), (a_3, .inl (cy 2, 240, .inr (.inl f_2))), (a_4, .inl (cy 2, 60, .inr (.inl f_3)))]) hS
  refine lv_iload_n hx hb dX12_paste_5 rfl (lv_at hl 1 rfl) ?_
  refine mm_finir (va_runS (As := [.int i_0]) (rest := []) ⟨hx, hb, hml, hown, hts⟩ (M197_X12_isSlot l G cy H.size i_0 ) (va_cwS 1 hts (mm_gS mm_w1269 mm_w1270 mm_w5 mm_w1271) rfl rfl rfl hs_X12_isSlot ⟨by rw [hRf]; exact Nat.le_of_ble_eq_true rfl, by rw [hRl]; exact Nat.le_of_ble_eq_true rfl⟩) (mm_preS hK hZ hS hA hP hD [] rfl rfl) rfl rfl hl.1 rfl (lv_room (Nat.le_of_ble_eq_true rfl)) dX12_paste_6 ⟨by rw [hRc]; exact Nat.le_of_ble_eq_true rfl, by rw [hRs]; exact Nat.le_of_ble_eq_true rfl⟩) hP hD hS hA [] rfl (fun _ => rfl) ?_
  clear hP hD hS
  clear H locs
  intro v1 _u H locs hw hP hD hS
  rcases hw with rfl | ⟨rfl, w2⟩
  · refine lv_if_eq (tgt := 19) hx hb dX12_paste_9 (by decide) (fun c3 => ?_) (fun c3 => ?_)
    · refine lv_bipush (v := (-2)) hx hb dX12_paste_19 (by decide) ?_
      subst hAe
      rw [hQ]
      exact W.iret (v := (-2)) hx hb hr (fun t ht hW => ⟨⟨(-2), (f_2, f_3), rfl, (mm_wk mm_km2 (by decide)), by rw [ht]; exact hP, hK.warm hW, hD⟩, hS.F ht⟩) hS.2.2 dX12_paste_21
    · exact absurd rfl (mm_ne c3)
  · refine lv_if_eq (tgt := 19) hx hb dX12_paste_9 (by decide) (fun c4 => ?_) (fun c4 => ?_)
    · exact mm_eqN c4.symm mm_k0 mm_k1 (by decide)
    · refine lv_iload_n hx hb dX12_paste_12 rfl (lv_at hl 3 rfl) ?_
      refine mm_finir (va_runS (As := [.int i_2]) (rest := []) ⟨hx, hb, hml, hown, hts⟩ (M197_X12_isSlot l G cy H.size i_2 ) (va_cwS 1 hts (mm_gS mm_w1269 mm_w1270 mm_w5 mm_w1271) rfl rfl rfl hs_X12_isSlot ⟨by rw [hRf]; exact Nat.le_of_ble_eq_true rfl, by rw [hRl]; exact Nat.le_of_ble_eq_true rfl⟩) (mm_preS hK hZ hS hA hP hD [] rfl rfl) rfl rfl hl.1 rfl (lv_room (Nat.le_of_ble_eq_true rfl)) dX12_paste_13 ⟨by rw [hRc]; exact Nat.le_of_ble_eq_true rfl, by rw [hRs]; exact Nat.le_of_ble_eq_true rfl⟩) hP hD hS hA [] rfl (fun _ => rfl) ?_
      clear hP hD hS
      clear H locs
      intro v5 _u H locs hw hP hD hS
      rcases hw with rfl | ⟨rfl, w6⟩
      · refine lv_if_ne (tgt := 22) hx hb dX12_paste_16 (by decide) (fun c7 => ?_) (fun c7 => ?_)
        · exact absurd rfl (mm_ne c7)
        · refine lv_bipush (v := (-2)) hx hb dX12_paste_19 (by decide) ?_
          subst hAe
          rw [hQ]
          exact W.iret (v := (-2)) hx hb hr (fun t ht hW => ⟨⟨(-2), (f_2, f_3), rfl, (mm_wk mm_km2 (by decide)), by rw [ht]; exact hP, hK.warm hW, hD⟩, hS.F ht⟩) hS.2.2 dX12_paste_21
      · refine lv_if_ne (tgt := 22) hx hb dX12_paste_16 (by decide) (fun c8 => ?_) (fun c8 => ?_)
        · refine lv_aload_n hx hb dX12_paste_22 rfl (lv_at hl 0 rfl) ?_
          refine va_get (D := G) (ci := 12) (v := .ref a_1) (C := RX12) (T := TX12) (N := 38) hx hb hts (mm_i inlX12) hown hK.1 hP 0 rfl rfl 1 (by decide) (mm_h hts mm_w142) (fun _ h9 => h9) rfl dX12_paste_23 ?_
          refine lv_iload_n hx hb dX12_paste_26 rfl (lv_at hl 1 rfl) ?_
          refine va_iald hx hb hK.1 hP 1 1 rfl rfl (mm_in w2 (by decide)) dX12_paste_27 ?_
          refine lv_topi (fun v9 ev9 => ?_)
          have rv9 : mm_rg v9 (-1) 3 := mm_eqv ev9 (h0 _)
          refine lv_iconst (v := (-1)) hx hb dX12_paste_28 (by decide) ?_
          refine lv_icmp_eq (tgt := 42) hx hb dX12_paste_29 (by decide) (fun c10 => ?_) (fun c10 => ?_)
          · have q11 := mm_eqI (lo := (-1)) (hi := (-1)) c10 rv9 mm_km1 (by decide)
            refine lv_bipush (v := (-6)) hx hb dX12_paste_42 (by decide) ?_
            subst hAe
            rw [hQ]
            exact W.iret (v := (-6)) hx hb hr (fun t ht hW => ⟨⟨(-6), (f_2, f_3), rfl, (mm_wk mm_km6 (by decide)), by rw [ht]; exact hP, hK.warm hW, hD⟩, hS.F ht⟩) hS.2.2 dX12_paste_44
          · have q12 := mm_neL (lo := 0) (mm_ne c10) rv9 mm_km1 (by decide) (by decide)
            refine lv_aload_n hx hb dX12_paste_32 rfl (lv_at hl 0 rfl) ?_
            refine va_get (D := G) (ci := 12) (v := .ref a_1) (C := RX12) (T := TX12) (N := 38) hx hb hts (mm_i inlX12) hown hK.1 hP 0 rfl rfl 1 (by decide) (mm_h hts mm_w142) (fun _ h9 => h9) rfl dX12_paste_33 ?_
            refine lv_iload_n hx hb dX12_paste_36 rfl (lv_at hl 3 rfl) ?_
            refine va_iald hx hb hK.1 hP 1 1 rfl rfl (mm_in w6 (by decide)) dX12_paste_37 ?_
            refine lv_topi (fun v13 ev13 => ?_)
            have rv13 : mm_rg v13 (-1) 3 := mm_eqv ev13 (h0 _)
            refine lv_iconst (v := (-1)) hx hb dX12_paste_38 (by decide) ?_
            refine lv_icmp_ne (tgt := 45) hx hb dX12_paste_39 (by decide) (fun c14 => ?_) (fun c14 => ?_)
            · have q15 := mm_neL (lo := 0) (mm_ne c14) rv13 mm_km1 (by decide) (by decide)
              refine lv_aload_n hx hb dX12_paste_45 rfl (lv_at hl 0 rfl) ?_
              refine va_get (D := G) (ci := 12) (v := .ref a_1) (C := RX12) (T := TX12) (N := 38) hx hb hts (mm_i inlX12) hown hK.1 hP 0 rfl rfl 1 (by decide) (mm_h hts mm_w142) (fun _ h9 => h9) rfl dX12_paste_46 ?_
              refine lv_iload_n hx hb dX12_paste_49 rfl (lv_at hl 1 rfl) ?_
              refine va_iald hx hb hK.1 hP 1 1 rfl rfl (mm_in w2 (by decide)) dX12_paste_50 ?_
              refine lv_topi (fun v16 ev16 => ?_)
              have rv16 : mm_rg v16 (-1) 3 := mm_eqv ev16 (h0 _)
              obtain rfl : v9 = v16 := ev9.trans ev16.symm
              refine lv_aload_n hx hb dX12_paste_51 rfl (lv_at hl 0 rfl) ?_
              refine va_get (D := G) (ci := 12) (v := .ref a_1) (C := RX12) (T := TX12) (N := 38) hx hb hts (mm_i inlX12) hown hK.1 hP 0 rfl rfl 1 (by decide) (mm_h hts mm_w142) (fun _ h9 => h9) rfl dX12_paste_52 ?_
              refine lv_iload_n hx hb dX12_paste_55 rfl (lv_at hl 3 rfl) ?_
              refine va_iald hx hb hK.1 hP 1 1 rfl rfl (mm_in w6 (by decide)) dX12_paste_56 ?_
              refine lv_topi (fun v17 ev17 => ?_)
              have rv17 : mm_rg v17 (-1) 3 := mm_eqv ev17 (h0 _)
              obtain rfl : v13 = v17 := ev13.trans ev17.symm
              refine lv_icmp_eq (tgt := 63) hx hb dX12_paste_57 (by decide) (fun c18 => ?_) (fun c18 => ?_)
              · refine lv_iload_n hx hb dX12_paste_63 rfl (lv_at hl 2 rfl) ?_
                refine lv_if_lt (tgt := 112) hx hb dX12_paste_64 (by decide) (fun c19 => ?_) (fun c19 => ?_)
                · have q20 := mm_ltL (h := (-1)) (mm_lt c19) (mm_top i_1) mm_k0 (by decide)
                  refine lv_bipush (v := (-7)) hx hb dX12_paste_112 (by decide) ?_
                  subst hAe
                  rw [hQ]
                  exact W.iret (v := (-7)) hx hb hr (fun t ht hW => ⟨⟨(-7), (f_2, f_3), rfl, (mm_wk mm_km7 (by decide)), by rw [ht]; exact hP, hK.warm hW, hD⟩, hS.F ht⟩) hS.2.2 dX12_paste_114
                · have q21 := mm_leR (mm_nlt c19) mm_k0 (mm_top i_1)
                  refine lv_iload hx hb dX12_paste_67 (lv_at hl 4 rfl) ?_
                  refine lv_if_lt (tgt := 112) hx hb dX12_paste_69 (by decide) (fun c22 => ?_) (fun c22 => ?_)
                  · have q23 := mm_ltL (h := (-1)) (mm_lt c22) (mm_top i_3) mm_k0 (by decide)
                    refine lv_bipush (v := (-7)) hx hb dX12_paste_112 (by decide) ?_
                    subst hAe
                    rw [hQ]
                    exact W.iret (v := (-7)) hx hb hr (fun t ht hW => ⟨⟨(-7), (f_2, f_3), rfl, (mm_wk mm_km7 (by decide)), by rw [ht]; exact hP, hK.warm hW, hD⟩, hS.F ht⟩) hS.2.2 dX12_paste_114
                  · have q24 := mm_leR (mm_nlt c22) mm_k0 (mm_top i_3)
                    refine lv_iload hx hb dX12_paste_72 (lv_at hl 5 rfl) ?_
                    refine lv_if_lt (tgt := 112) hx hb dX12_paste_74 (by decide) (fun c25 => ?_) (fun c25 => ?_)
                    · have q26 := mm_ltL (h := (-1)) (mm_lt c25) (mm_top i_4) mm_k0 (by decide)
                      refine lv_bipush (v := (-7)) hx hb dX12_paste_112 (by decide) ?_
                      subst hAe
                      rw [hQ]
                      exact W.iret (v := (-7)) hx hb hr (fun t ht hW => ⟨⟨(-7), (f_2, f_3), rfl, (mm_wk mm_km7 (by decide)), by rw [ht]; exact hP, hK.warm hW, hD⟩, hS.F ht⟩) hS.2.2 dX12_paste_114
                    · have q27 := mm_leR (mm_nlt c25) mm_k0 (mm_top i_4)
                      refine lv_iload_n hx hb dX12_paste_77 rfl (lv_at hl 2 rfl) ?_
                      obtain ⟨v28, ev28⟩ : ∃ y : Int64, y = i_1.toInt64 := ⟨_, rfl⟩
                      refine lv_i2l hx hb dX12_paste_78 ev28.symm ?_
                      have rv28 : mm_rl v28 0 2147483647 := mm_i2l ev28 q21
                      refine lv_iload hx hb dX12_paste_79 (lv_at hl 5 rfl) ?_
                      obtain ⟨v29, ev29⟩ : ∃ y : Int64, y = i_4.toInt64 := ⟨_, rfl⟩
                      refine lv_i2l hx hb dX12_paste_81 ev29.symm ?_
                      have rv29 : mm_rl v29 0 2147483647 := mm_i2l ev29 q27
                      refine lv_ladd hx hb dX12_paste_82 ?_
                      refine lv_topl (fun v30 ev30 => ?_)
                      have rv30 : mm_rl v30 0 4294967294 := mm_addl ev30 rv28 rv29 (by decide) (by decide)
                      have tv30 := mm_addlE ev30 rv28 rv29 (by decide)
                      refine lv_aload_n hx hb dX12_paste_83 rfl (lv_at hl 0 rfl) ?_
                      refine va_get (D := G) (ci := 12) (v := .ref a_2) (C := RX12) (T := TX12) (N := 38) hx hb hts (mm_i inlX12) hown hK.1 hP 0 rfl rfl 2 (by decide) (mm_h hts mm_w143) (fun _ h9 => h9) rfl dX12_paste_84 ?_
                      refine lv_iload_n hx hb dX12_paste_87 rfl (lv_at hl 1 rfl) ?_
                      refine va_iald hx hb hK.1 hP 2 1 rfl rfl (mm_in w2 (by decide)) dX12_paste_88 ?_
                      refine lv_topi (fun v31 ev31 => ?_)
                      have rv31 : mm_rg v31 0 60 := mm_eqv ev31 (h1 _)
                      obtain ⟨v32, ev32⟩ : ∃ y : Int64, y = v31.toInt64 := ⟨_, rfl⟩
                      refine lv_i2l hx hb dX12_paste_89 ev32.symm ?_
                      have rv32 : mm_rl v32 0 60 := mm_i2l ev32 rv31
                      refine W.lcmp hx hb dX12_paste_90 ?_
                      refine lv_topi (fun v33 ev33 => ?_)
                      refine lv_if_gt (tgt := 112) hx hb dX12_paste_91 (by decide) (fun c34 => ?_) (fun c34 => ?_)
                      · have q35 := mm_ltRl (lo := 1) (mm_cmp_gt ev33 c34) rv32 rv30 (by decide)
                        refine lv_bipush (v := (-7)) hx hb dX12_paste_112 (by decide) ?_
                        subst hAe
                        rw [hQ]
                        exact W.iret (v := (-7)) hx hb hr (fun t ht hW => ⟨⟨(-7), (f_2, f_3), rfl, (mm_wk mm_km7 (by decide)), by rw [ht]; exact hP, hK.warm hW, hD⟩, hS.F ht⟩) hS.2.2 dX12_paste_114
                      · have q36 := mm_leLl (mm_cmp_le ev33 (mm_n_gt c34)) rv30 rv32
                        have w37 : mm_sm i_1 i_4 v31 := mm_sm_of (mm_i2lE ev28) (mm_i2lE ev29) (mm_i2lE ev32) tv30 (mm_cmp_le ev33 (mm_n_gt c34))
                        have q38 : mm_rg i_1 0 60 := mm_sm_1 w37 q21 q27 rv31 (by decide)
                        have q39 : mm_rg i_4 0 60 := mm_sm_2 w37 q27 q21 rv31 (by decide)
                        refine lv_iload hx hb dX12_paste_94 (lv_at hl 4 rfl) ?_
                        obtain ⟨v40, ev40⟩ : ∃ y : Int64, y = i_3.toInt64 := ⟨_, rfl⟩
                        refine lv_i2l hx hb dX12_paste_96 ev40.symm ?_
                        have rv40 : mm_rl v40 0 2147483647 := mm_i2l ev40 q24
                        refine lv_iload hx hb dX12_paste_97 (lv_at hl 5 rfl) ?_
                        obtain ⟨v41, ev41⟩ : ∃ y : Int64, y = i_4.toInt64 := ⟨_, rfl⟩
                        refine lv_i2l hx hb dX12_paste_99 ev41.symm ?_
                        have rv41 : mm_rl v41 0 60 := mm_i2l ev41 q39
                        refine lv_ladd hx hb dX12_paste_100 ?_
                        refine lv_topl (fun v42 ev42 => ?_)
                        have rv42 : mm_rl v42 0 2147483707 := mm_addl ev42 rv40 rv41 (by decide) (by decide)
                        have tv42 := mm_addlE ev42 rv40 rv41 (by decide)
                        refine lv_aload_n hx hb dX12_paste_101 rfl (lv_at hl 0 rfl) ?_
                        refine va_get (D := G) (ci := 12) (v := .ref a_2) (C := RX12) (T := TX12) (N := 38) hx hb hts (mm_i inlX12) hown hK.1 hP 0 rfl rfl 2 (by decide) (mm_h hts mm_w143) (fun _ h9 => h9) rfl dX12_paste_102 ?_
                        refine lv_iload_n hx hb dX12_paste_105 rfl (lv_at hl 3 rfl) ?_
                        refine va_iald hx hb hK.1 hP 2 1 rfl rfl (mm_in w6 (by decide)) dX12_paste_106 ?_
                        refine lv_topi (fun v43 ev43 => ?_)
                        have rv43 : mm_rg v43 0 60 := mm_eqv ev43 (h1 _)
                        obtain ⟨v44, ev44⟩ : ∃ y : Int64, y = v43.toInt64 := ⟨_, rfl⟩
                        refine lv_i2l hx hb dX12_paste_107 ev44.symm ?_
                        have rv44 : mm_rl v44 0 60 := mm_i2l ev44 rv43
                        refine W.lcmp hx hb dX12_paste_108 ?_
                        refine lv_topi (fun v45 ev45 => ?_)
                        refine lv_if_le (tgt := 115) hx hb dX12_paste_109 (by decide) (fun c46 => ?_) (fun c46 => ?_)
                        · have q47 := mm_leLl (mm_cmp_le ev45 c46) rv42 rv44
                          have w48 : mm_sm i_3 i_4 v43 := mm_sm_of (mm_i2lE ev40) (mm_i2lE ev41) (mm_i2lE ev44) tv42 (mm_cmp_le ev45 c46)
                          have q49 : mm_rg i_3 0 60 := mm_sm_1 w48 q24 q39 rv43 (by decide)
                          refine lv_iconst (v := 0) hx hb dX12_paste_115 (by decide) ?_
                          refine lv_istore (lv' := [(6, .int 0), (0, .ref a_0), (1, .int i_0), (2, .int i_1), (3, .int i_2), (4, .int i_3), (5, .int i_4)]) hx hb dX12_paste_116 hl (by decide) rfl ?_
                          clear hl
                          clear ls
                          intro ls hl
                          have L118_176 : ∀ (n : Nat) (x118_6_175 : Int32) (z118_4_176 : Nat → Int64), mm_rg x118_6_175 0 60 → (60 - x118_6_175.toInt).toNat < n → ∀ (H : Heap) (locs : List Loc), va_P G vwCl [(a_0, .inr (12, [.int 0, .ref a_1, .ref a_2, .ref a_3, .ref a_4, .ref a_5, .int i_6, .int i_7, .int i_8, .int i_9, .int i_10, .long j_0, .int i_11, .int i_12, .int i_13, .int i_14, .ref a_6, .ref a_7, .ref a_8, .ref a_9, .ref a_10, .ref a_11, .ref a_12, .ref a_13, .ref a_14, .ref a_15, .ref a_16, .ref a_17, .ref a_18, .int i_15, .int i_16, .int i_17, .int i_18, .int i_19, .int i_20, .ref a_19, .int i_21, .ref a_20])), (a_1, .inl (cy 1, 4, .inl f_0)), (a_2, .inl (cy 1, 4, .inl f_1)), (a_3, .inl (cy 2, 240, .inr (.inl f_2))), (a_4, .inl (cy 2, 60, .inr (.inl z118_4_176)))] H → va_D A [(a_0, .inr (12, [.int 0, .ref a_1, .ref a_2, .ref a_3, .ref a_4, .ref a_5, .int i_6, .int i_7, .int i_8, .int i_9, .int i_10, .long j_0, .int i_11, .int i_12, .int i_13, .int i_14, .ref a_6, .ref a_7, .ref a_8, .ref a_9, .ref a_10, .ref a_11, .ref a_12, .ref a_13, .ref a_14, .ref a_15, .ref a_16, .ref a_17, .ref a_18, .int i_15, .int i_16, .int i_17, .int i_18, .int i_19, .int i_20, .ref a_19, .int i_21, .ref a_20])), (a_1, .inl (cy 1, 4, .inl f_0)), (a_2, .inl (cy 1, 4, .inl f_1)), (a_3, .inl (cy 2, 240, .inr (.inl f_2))), (a_4, .inl (cy 2, 60, .inr (.inl z118_4_176)))] → va_S A s.heap H locs → ∀ (ls : Array Slot), lv_has ls 7 [(6, .int x118_6_175), (0, .ref a_0), (1, .int i_0), (2, .int i_1), (3, .int i_2), (4, .int i_3), (5, .int i_4)] → W p l e R s m args below meth c H locs 0 0 Q (F0 m 118 ls []) := by
                            intro n
                            induction n with
                            | zero => intro x118_6_175 z118_4_176 rx118_6_175 hm; exact absurd hm (Nat.not_lt_zero _)
                            | succ n ih118 =>
                              intro x118_6_175 z118_4_176 rx118_6_175 hm118 H locs hP hD hS ls hl
                              refine lv_iload hx hb dX12_paste_118 (lv_at hl 0 rfl) ?_
                              refine lv_iload hx hb dX12_paste_120 (lv_at hl 6 rfl) ?_
                              refine lv_icmp_ge (tgt := 152) hx hb dX12_paste_122 (by decide) (fun c178 => ?_) (fun c178 => ?_)
                              · refine lv_iconst (v := 0) hx hb dX12_paste_152 (by decide) ?_
                                refine lv_istore (lv' := [(6, .int 0), (0, .ref a_0), (1, .int i_0), (2, .int i_1), (3, .int i_2), (4, .int i_3), (5, .int i_4)]) hx hb dX12_paste_153 hl (by decide) rfl ?_
                                clear hl
                                clear ls
                                intro ls hl
                                have L155_319 : ∀ (n : Nat) (x155_6_318 : Int32) (z155_3_319 : Nat → Int64), mm_rg x155_6_318 0 60 → (60 - x155_6_318.toInt).toNat < n → ∀ (H : Heap) (locs : List Loc), va_P G vwCl [(a_0, .inr (12, [.int 0, .ref a_1, .ref a_2, .ref a_3, .ref a_4, .ref a_5, .int i_6, .int i_7, .int i_8, .int i_9, .int i_10, .long j_0, .int i_11, .int i_12, .int i_13, .int i_14, .ref a_6, .ref a_7, .ref a_8, .ref a_9, .ref a_10, .ref a_11, .ref a_12, .ref a_13, .ref a_14, .ref a_15, .ref a_16, .ref a_17, .ref a_18, .int i_15, .int i_16, .int i_17, .int i_18, .int i_19, .int i_20, .ref a_19, .int i_21, .ref a_20])), (a_1, .inl (cy 1, 4, .inl f_0)), (a_2, .inl (cy 1, 4, .inl f_1)), (a_3, .inl (cy 2, 240, .inr (.inl z155_3_319))), (a_4, .inl (cy 2, 60, .inr (.inl z118_4_176)))] H → va_D A [(a_0, .inr (12, [.int 0, .ref a_1, .ref a_2, .ref a_3, .ref a_4, .ref a_5, .int i_6, .int i_7, .int i_8, .int i_9, .int i_10, .long j_0, .int i_11, .int i_12, .int i_13, .int i_14, .ref a_6, .ref a_7, .ref a_8, .ref a_9, .ref a_10, .ref a_11, .ref a_12, .ref a_13, .ref a_14, .ref a_15, .ref a_16, .ref a_17, .ref a_18, .int i_15, .int i_16, .int i_17, .int i_18, .int i_19, .int i_20, .ref a_19, .int i_21, .ref a_20])), (a_1, .inl (cy 1, 4, .inl f_0)), (a_2, .inl (cy 1, 4, .inl f_1)), (a_3, .inl (cy 2, 240, .inr (.inl z155_3_319))), (a_4, .inl (cy 2, 60, .inr (.inl z118_4_176)))] → va_S A s.heap H locs → ∀ (ls : Array Slot), lv_has ls 7 [(6, .int x155_6_318), (0, .ref a_0), (1, .int i_0), (2, .int i_1), (3, .int i_2), (4, .int i_3), (5, .int i_4)] → W p l e R s m args below meth c H locs 0 0 Q (F0 m 155 ls []) := by
                                  intro n
                                  induction n with
                                  | zero => intro x155_6_318 z155_3_319 rx155_6_318 hm; exact absurd hm (Nat.not_lt_zero _)
                                  | succ n ih155 =>
                                    intro x155_6_318 z155_3_319 rx155_6_318 hm155 H locs hP hD hS ls hl
                                    refine lv_iload hx hb dX12_paste_155 (lv_at hl 0 rfl) ?_
                                    refine lv_iload hx hb dX12_paste_157 (lv_at hl 6 rfl) ?_
                                    refine lv_icmp_ge (tgt := 190) hx hb dX12_paste_159 (by decide) (fun c321 => ?_) (fun c321 => ?_)
                                    · refine lv_iconst (v := 0) hx hb dX12_paste_190 (by decide) ?_
                                      subst hAe
                                      rw [hQ]
                                      exact W.iret (v := 0) hx hb hr (fun t ht hW => ⟨⟨0, (z155_3_319, z118_4_176), rfl, (mm_wk mm_k0 (by decide)), by rw [ht]; exact hP, hK.warm hW, hD⟩, hS.F ht⟩) hS.2.2 dX12_paste_191
                                    · have q322 := mm_ltL (h := 59) (mm_nle c321) rx155_6_318 q39 (by decide)
                                      have q323 := mm_ltR (lo := 1) (mm_nle c321) rx155_6_318 q39 (by decide)
                                      have q324 := mm_leR (mm_le c178) q323 rx118_6_175
                                      refine lv_aload_n hx hb dX12_paste_162 rfl (lv_at hl 1 rfl) ?_
                                      refine va_get (D := G) (ci := 12) (v := .ref a_3) (C := RX12) (T := TX12) (N := 38) hx hb hts (mm_i inlX12) hown hK.1 hP 0 rfl rfl 3 (by decide) (mm_h hts mm_w144) (fun _ h9 => h9) rfl dX12_paste_163 ?_
                                      refine lv_bipush (v := 60) hx hb dX12_paste_166 (by decide) ?_
                                      refine lv_iload_n hx hb dX12_paste_168 rfl (lv_at hl 4 rfl) ?_
                                      refine lv_imul hx hb dX12_paste_169 ?_
                                      refine lv_topi (fun v325 ev325 => ?_)
                                      have rv325 : mm_rg v325 0 180 := mm_mul ev325 mm_k60 w6 (by decide) (by decide)
                                      have tv325 := mm_mulEc ev325 mm_k60 w6 (by decide) (k := 60) (by decide)
                                      refine lv_iload hx hb dX12_paste_170 (lv_at hl 5 rfl) ?_
                                      refine lv_iadd hx hb dX12_paste_172 ?_
                                      refine lv_topi (fun v326 ev326 => ?_)
                                      have rv326 : mm_rg v326 0 240 := mm_add ev326 rv325 q49 (by decide) (by decide)
                                      have tv326 := mm_addE ev326 rv325 q49 (by decide)
                                      refine lv_iload hx hb dX12_paste_173 (lv_at hl 0 rfl) ?_
                                      refine lv_iadd hx hb dX12_paste_175 ?_
                                      refine lv_topi (fun v327 ev327 => ?_)
                                      have rv327 : mm_rg v327 0 299 := mm_add ev327 rv326 q322 (by decide) (by decide)
                                      have tv327 := mm_addE ev327 rv326 q322 (by decide)
                                      refine lv_aload_n hx hb dX12_paste_176 rfl (lv_at hl 1 rfl) ?_
                                      refine va_get (D := G) (ci := 12) (v := .ref a_4) (C := RX12) (T := TX12) (N := 38) hx hb hts (mm_i inlX12) hown hK.1 hP 0 rfl rfl 4 (by decide) (mm_h hts mm_w145) (fun _ h9 => h9) rfl dX12_paste_177 ?_
                                      refine lv_iload hx hb dX12_paste_180 (lv_at hl 0 rfl) ?_
                                      refine va_lald hx hb hK.1 hP 4 2 rfl rfl (mm_in q322 (by decide)) dX12_paste_182 ?_
                                      refine lv_topl (fun v328 ev328 => ?_)
                                      have q329 : mm_rg v327 0 239 := mm_sm_in w48 (mm_nle c321) (by have := tv327; have := tv326; have := tv325; omega) w6 q49 q322 rv43 (by decide)
                                      refine va_last hx hb hK.1 hP hD hS 3 2 rfl rfl (mm_in q329 (by decide)) dX12_paste_183 ?_
                                      clear hP hD hS
                                      clear H locs
                                      obtain ⟨g330, eg330⟩ : ∃ z : Nat → Int64, z = vp_updL z155_3_319 v327.toNatClampNeg v328 := ⟨_, rfl⟩
                                      rw [← eg330]
                                      intro H locs (hP : va_P G vwCl [(a_0, .inr (12, [.int 0, .ref a_1, .ref a_2, .ref a_3, .ref a_4, .ref a_5, .int i_6, .int i_7, .int i_8, .int i_9, .int i_10, .long j_0, .int i_11, .int i_12, .int i_13, .int i_14, .ref a_6, .ref a_7, .ref a_8, .ref a_9, .ref a_10, .ref a_11, .ref a_12, .ref a_13, .ref a_14, .ref a_15, .ref a_16, .ref a_17, .ref a_18, .int i_15, .int i_16, .int i_17, .int i_18, .int i_19, .int i_20, .ref a_19, .int i_21, .ref a_20])), (a_1, .inl (cy 1, 4, .inl f_0)), (a_2, .inl (cy 1, 4, .inl f_1)), (a_3, .inl (cy 2, 240, .inr (.inl g330))), (a_4, .inl (cy 2, 60, .inr (.inl z118_4_176)))] H) (hD : va_D A [(a_0, .inr (12, [.int 0, .ref a_1, .ref a_2, .ref a_3, .ref a_4, .ref a_5, .int i_6, .int i_7, .int i_8, .int i_9, .int i_10, .long j_0, .int i_11, .int i_12, .int i_13, .int i_14, .ref a_6, .ref a_7, .ref a_8, .ref a_9, .ref a_10, .ref a_11, .ref a_12, .ref a_13, .ref a_14, .ref a_15, .ref a_16, .ref a_17, .ref a_18, .int i_15, .int i_16, .int i_17, .int i_18, .int i_19, .int i_20, .ref a_19, .int i_21, .ref a_20])), (a_1, .inl (cy 1, 4, .inl f_0)), (a_2, .inl (cy 1, 4, .inl f_1)), (a_3, .inl (cy 2, 240, .inr (.inl g330))), (a_4, .inl (cy 2, 60, .inr (.inl z118_4_176)))]) hS
                                      obtain ⟨v331, ev331⟩ : ∃ y : Int32, y = x155_6_318 + 1 := ⟨_, rfl⟩
                                      refine lv_iinc (v := v331) (lv' := [(6, .int v331), (0, .ref a_0), (1, .int i_0), (2, .int i_1), (3, .int i_2), (4, .int i_3), (5, .int i_4)]) hx hb dX12_paste_184 hl (k := 0) rfl (by rw [ev331]; rfl) (by decide) rfl ?_
                                      clear hl
                                      clear ls
                                      intro ls hl
                                      have rv331 : mm_rg v331 1 60 := mm_add ev331 q322 mm_k1 (by decide) (by decide)
                                      have tv331 := mm_addEc ev331 q322 mm_k1 (by decide) (k := 1) (by decide)
                                      refine lv_goto (tgt := 155) hx hb dX12_paste_187 (by decide) ?_
                                      exact ih155 v331 g330 (mm_wk rv331 (by decide)) (mm_mu hm155 tv331 (by decide) (rv331).2 (by decide)) H locs hP hD hS ls (lv_sub hl [0, 1, 2, 3, 4, 5, 6] rfl)
                                exact L155_319 _ 0 f_2 (mm_wk mm_k0 (by decide)) (Nat.lt_succ_self _) H locs hP hD hS ls (lv_sub hl [0, 1, 2, 3, 4, 5, 6] rfl)
                              · have q332 := mm_ltL (h := 59) (mm_nle c178) rx118_6_175 q39 (by decide)
                                have q333 := mm_ltR (lo := 1) (mm_nle c178) rx118_6_175 q39 (by decide)
                                refine lv_aload_n hx hb dX12_paste_125 rfl (lv_at hl 1 rfl) ?_
                                refine va_get (D := G) (ci := 12) (v := .ref a_4) (C := RX12) (T := TX12) (N := 38) hx hb hts (mm_i inlX12) hown hK.1 hP 0 rfl rfl 4 (by decide) (mm_h hts mm_w145) (fun _ h9 => h9) rfl dX12_paste_126 ?_
                                refine lv_iload hx hb dX12_paste_129 (lv_at hl 0 rfl) ?_
                                refine lv_aload_n hx hb dX12_paste_131 rfl (lv_at hl 1 rfl) ?_
                                refine va_get (D := G) (ci := 12) (v := .ref a_3) (C := RX12) (T := TX12) (N := 38) hx hb hts (mm_i inlX12) hown hK.1 hP 0 rfl rfl 3 (by decide) (mm_h hts mm_w144) (fun _ h9 => h9) rfl dX12_paste_132 ?_
                                refine lv_bipush (v := 60) hx hb dX12_paste_135 (by decide) ?_
                                refine lv_iload_n hx hb dX12_paste_137 rfl (lv_at hl 2 rfl) ?_
                                refine lv_imul hx hb dX12_paste_138 ?_
                                refine lv_topi (fun v334 ev334 => ?_)
                                have rv334 : mm_rg v334 0 180 := mm_mul ev334 mm_k60 w2 (by decide) (by decide)
                                have tv334 := mm_mulEc ev334 mm_k60 w2 (by decide) (k := 60) (by decide)
                                refine lv_iload_n hx hb dX12_paste_139 rfl (lv_at hl 3 rfl) ?_
                                refine lv_iadd hx hb dX12_paste_140 ?_
                                refine lv_topi (fun v335 ev335 => ?_)
                                have rv335 : mm_rg v335 0 240 := mm_add ev335 rv334 q38 (by decide) (by decide)
                                have tv335 := mm_addE ev335 rv334 q38 (by decide)
                                refine lv_iload hx hb dX12_paste_141 (lv_at hl 0 rfl) ?_
                                refine lv_iadd hx hb dX12_paste_143 ?_
                                refine lv_topi (fun v336 ev336 => ?_)
                                have rv336 : mm_rg v336 0 299 := mm_add ev336 rv335 q332 (by decide) (by decide)
                                have tv336 := mm_addE ev336 rv335 q332 (by decide)
                                have q337 : mm_rg v336 0 239 := mm_sm_in w37 (mm_nle c178) (by have := tv336; have := tv335; have := tv334; omega) w2 q38 q332 rv31 (by decide)
                                refine va_lald hx hb hK.1 hP 3 2 rfl rfl (mm_in q337 (by decide)) dX12_paste_144 ?_
                                refine lv_topl (fun v338 ev338 => ?_)
                                refine va_last hx hb hK.1 hP hD hS 4 2 rfl rfl (mm_in q332 (by decide)) dX12_paste_145 ?_
                                clear hP hD hS
                                clear H locs
                                obtain ⟨g339, eg339⟩ : ∃ z : Nat → Int64, z = vp_updL z118_4_176 x118_6_175.toNatClampNeg v338 := ⟨_, rfl⟩
                                rw [← eg339]
                                intro H locs (hP : va_P G vwCl [(a_0, .inr (12, [.int 0, .ref a_1, .ref a_2, .ref a_3, .ref a_4, .ref a_5, .int i_6, .int i_7, .int i_8, .int i_9, .int i_10, .long j_0, .int i_11, .int i_12, .int i_13, .int i_14, .ref a_6, .ref a_7, .ref a_8, .ref a_9, .ref a_10, .ref a_11, .ref a_12, .ref a_13, .ref a_14, .ref a_15, .ref a_16, .ref a_17, .ref a_18, .int i_15, .int i_16, .int i_17, .int i_18, .int i_19, .int i_20, .ref a_19, .int i_21, .ref a_20])), (a_1, .inl (cy 1, 4, .inl f_0)), (a_2, .inl (cy 1, 4, .inl f_1)), (a_3, .inl (cy 2, 240, .inr (.inl f_2))), (a_4, .inl (cy 2, 60, .inr (.inl g339)))] H) (hD : va_D A [(a_0, .inr (12, [.int 0, .ref a_1, .ref a_2, .ref a_3, .ref a_4, .ref a_5, .int i_6, .int i_7, .int i_8, .int i_9, .int i_10, .long j_0, .int i_11, .int i_12, .int i_13, .int i_14, .ref a_6, .ref a_7, .ref a_8, .ref a_9, .ref a_10, .ref a_11, .ref a_12, .ref a_13, .ref a_14, .ref a_15, .ref a_16, .ref a_17, .ref a_18, .int i_15, .int i_16, .int i_17, .int i_18, .int i_19, .int i_20, .ref a_19, .int i_21, .ref a_20])), (a_1, .inl (cy 1, 4, .inl f_0)), (a_2, .inl (cy 1, 4, .inl f_1)), (a_3, .inl (cy 2, 240, .inr (.inl f_2))), (a_4, .inl (cy 2, 60, .inr (.inl g339)))]) hS
                                obtain ⟨v340, ev340⟩ : ∃ y : Int32, y = x118_6_175 + 1 := ⟨_, rfl⟩
                                refine lv_iinc (v := v340) (lv' := [(6, .int v340), (0, .ref a_0), (1, .int i_0), (2, .int i_1), (3, .int i_2), (4, .int i_3), (5, .int i_4)]) hx hb dX12_paste_146 hl (k := 0) rfl (by rw [ev340]; rfl) (by decide) rfl ?_
                                clear hl
                                clear ls
                                intro ls hl
                                have rv340 : mm_rg v340 1 60 := mm_add ev340 q332 mm_k1 (by decide) (by decide)
                                have tv340 := mm_addEc ev340 q332 mm_k1 (by decide) (k := 1) (by decide)
                                refine lv_goto (tgt := 118) hx hb dX12_paste_149 (by decide) ?_
                                exact ih118 v340 g339 (mm_wk rv340 (by decide)) (mm_mu hm118 tv340 (by decide) (rv340).2 (by decide)) H locs hP hD hS ls (lv_sub hl [0, 1, 2, 3, 4, 5, 6] rfl)
                          exact L118_176 _ 0 f_3 (mm_wk mm_k0 (by decide)) (Nat.lt_succ_self _) H locs hP hD hS ls (lv_sub hl [0, 1, 2, 3, 4, 5, 6] rfl)
                        · have q341 := mm_ltRl (lo := 1) (mm_cmp_gt ev45 (mm_n_le c46)) rv44 rv42 (by decide)
                          refine lv_bipush (v := (-7)) hx hb dX12_paste_112 (by decide) ?_
                          subst hAe
                          rw [hQ]
                          exact W.iret (v := (-7)) hx hb hr (fun t ht hW => ⟨⟨(-7), (f_2, f_3), rfl, (mm_wk mm_km7 (by decide)), by rw [ht]; exact hP, hK.warm hW, hD⟩, hS.F ht⟩) hS.2.2 dX12_paste_114
              · refine lv_bipush (v := (-8)) hx hb dX12_paste_60 (by decide) ?_
                subst hAe
                rw [hQ]
                exact W.iret (v := (-8)) hx hb hr (fun t ht hW => ⟨⟨(-8), (f_2, f_3), rfl, (mm_wk mm_km8 (by decide)), by rw [ht]; exact hP, hK.warm hW, hD⟩, hS.F ht⟩) hS.2.2 dX12_paste_62
            · have q342 := mm_eqI (lo := (-1)) (hi := (-1)) c14 rv13 mm_km1 (by decide)
              refine lv_bipush (v := (-6)) hx hb dX12_paste_42 (by decide) ?_
              subst hAe
              rw [hQ]
              exact W.iret (v := (-6)) hx hb hr (fun t ht hW => ⟨⟨(-6), (f_2, f_3), rfl, (mm_wk mm_km6 (by decide)), by rw [ht]; exact hP, hK.warm hW, hD⟩, hS.F ht⟩) hS.2.2 dX12_paste_44
        · exact mm_eqN c8.symm mm_k0 mm_k1 (by decide)

