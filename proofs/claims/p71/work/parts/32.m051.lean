theorem dX12_cut_0 : decode cX12_cut 0 = .ok (.iload_n 2, 1) := by decide +kernel
theorem dX12_cut_1 : decode cX12_cut 1 = .ok (.ifCond .ne 10, 3) := by decide +kernel
theorem dX12_cut_4 : decode cX12_cut 4 = .ok (.lload_n 0, 1) := by decide +kernel
theorem dX12_cut_5 : decode cX12_cut 5 = .ok (.l2i, 1) := by decide +kernel
theorem dX12_cut_6 : decode cX12_cut 6 = .ok (.i2b, 1) := by decide +kernel
theorem dX12_cut_7 : decode cX12_cut 7 = .ok (.i2l, 1) := by decide +kernel
theorem dX12_cut_8 : decode cX12_cut 8 = .ok (.goto 27, 3) := by decide +kernel
theorem dX12_cut_11 : decode cX12_cut 11 = .ok (.iload_n 2, 1) := by decide +kernel
theorem dX12_cut_12 : decode cX12_cut 12 = .ok (.iconst 1, 1) := by decide +kernel
theorem dX12_cut_13 : decode cX12_cut 13 = .ok (.if_icmp .ne 10, 3) := by decide +kernel
theorem dX12_cut_16 : decode cX12_cut 16 = .ok (.lload_n 0, 1) := by decide +kernel
theorem dX12_cut_17 : decode cX12_cut 17 = .ok (.l2i, 1) := by decide +kernel
theorem dX12_cut_18 : decode cX12_cut 18 = .ok (.i2s, 1) := by decide +kernel
theorem dX12_cut_19 : decode cX12_cut 19 = .ok (.i2l, 1) := by decide +kernel
theorem dX12_cut_20 : decode cX12_cut 20 = .ok (.goto 15, 3) := by decide +kernel
theorem dX12_cut_23 : decode cX12_cut 23 = .ok (.iload_n 2, 1) := by decide +kernel
theorem dX12_cut_24 : decode cX12_cut 24 = .ok (.iconst 2, 1) := by decide +kernel
theorem dX12_cut_25 : decode cX12_cut 25 = .ok (.if_icmp .ne 9, 3) := by decide +kernel
theorem dX12_cut_28 : decode cX12_cut 28 = .ok (.lload_n 0, 1) := by decide +kernel
theorem dX12_cut_29 : decode cX12_cut 29 = .ok (.l2i, 1) := by decide +kernel
theorem dX12_cut_30 : decode cX12_cut 30 = .ok (.i2l, 1) := by decide +kernel
theorem dX12_cut_31 : decode cX12_cut 31 = .ok (.goto 4, 3) := by decide +kernel
theorem dX12_cut_34 : decode cX12_cut 34 = .ok (.lload_n 0, 1) := by decide +kernel
theorem dX12_cut_35 : decode cX12_cut 35 = .ok (.lreturn, 1) := by decide +kernel
theorem dX12_paste_0 : decode cX12_paste 0 = .ok (.aload_n 0, 1) := by decide +kernel
theorem dX12_paste_1 : decode cX12_paste 1 = .ok (.iconst 0, 1) := by decide +kernel
theorem dX12_paste_2 : decode cX12_paste 2 = .ok (.putfield 77, 3) := by decide +kernel
theorem dX12_paste_5 : decode cX12_paste 5 = .ok (.iload_n 1, 1) := by decide +kernel
theorem dX12_paste_6 : decode cX12_paste 6 = .ok (.invokestatic 86, 3) := by decide +kernel
theorem dX12_paste_9 : decode cX12_paste 9 = .ok (.ifCond .eq 10, 3) := by decide +kernel
theorem dX12_paste_12 : decode cX12_paste 12 = .ok (.iload_n 3, 1) := by decide +kernel
theorem dX12_paste_13 : decode cX12_paste 13 = .ok (.invokestatic 86, 3) := by decide +kernel
theorem dX12_paste_16 : decode cX12_paste 16 = .ok (.ifCond .ne 6, 3) := by decide +kernel
theorem dX12_paste_19 : decode cX12_paste 19 = .ok (.bipush (-2), 2) := by decide +kernel
theorem dX12_paste_21 : decode cX12_paste 21 = .ok (.ireturn, 1) := by decide +kernel
theorem dX12_paste_22 : decode cX12_paste 22 = .ok (.aload_n 0, 1) := by decide +kernel
theorem dX12_paste_23 : decode cX12_paste 23 = .ok (.getfield 7, 3) := by decide +kernel
theorem dX12_paste_26 : decode cX12_paste 26 = .ok (.iload_n 1, 1) := by decide +kernel
theorem dX12_paste_27 : decode cX12_paste 27 = .ok (.iaload, 1) := by decide +kernel
theorem dX12_paste_28 : decode cX12_paste 28 = .ok (.iconst (-1), 1) := by decide +kernel
theorem dX12_paste_29 : decode cX12_paste 29 = .ok (.if_icmp .eq 13, 3) := by decide +kernel
theorem dX12_paste_32 : decode cX12_paste 32 = .ok (.aload_n 0, 1) := by decide +kernel
theorem dX12_paste_33 : decode cX12_paste 33 = .ok (.getfield 7, 3) := by decide +kernel
theorem dX12_paste_36 : decode cX12_paste 36 = .ok (.iload_n 3, 1) := by decide +kernel
theorem dX12_paste_37 : decode cX12_paste 37 = .ok (.iaload, 1) := by decide +kernel
theorem dX12_paste_38 : decode cX12_paste 38 = .ok (.iconst (-1), 1) := by decide +kernel
theorem dX12_paste_39 : decode cX12_paste 39 = .ok (.if_icmp .ne 6, 3) := by decide +kernel
theorem dX12_paste_42 : decode cX12_paste 42 = .ok (.bipush (-6), 2) := by decide +kernel
theorem dX12_paste_44 : decode cX12_paste 44 = .ok (.ireturn, 1) := by decide +kernel
theorem dX12_paste_45 : decode cX12_paste 45 = .ok (.aload_n 0, 1) := by decide +kernel
theorem dX12_paste_46 : decode cX12_paste 46 = .ok (.getfield 7, 3) := by decide +kernel
theorem dX12_paste_49 : decode cX12_paste 49 = .ok (.iload_n 1, 1) := by decide +kernel
theorem dX12_paste_50 : decode cX12_paste 50 = .ok (.iaload, 1) := by decide +kernel
theorem dX12_paste_51 : decode cX12_paste 51 = .ok (.aload_n 0, 1) := by decide +kernel
theorem dX12_paste_52 : decode cX12_paste 52 = .ok (.getfield 7, 3) := by decide +kernel
theorem dX12_paste_55 : decode cX12_paste 55 = .ok (.iload_n 3, 1) := by decide +kernel
theorem dX12_paste_56 : decode cX12_paste 56 = .ok (.iaload, 1) := by decide +kernel
theorem dX12_paste_57 : decode cX12_paste 57 = .ok (.if_icmp .eq 6, 3) := by decide +kernel
theorem dX12_paste_60 : decode cX12_paste 60 = .ok (.bipush (-8), 2) := by decide +kernel
theorem dX12_paste_62 : decode cX12_paste 62 = .ok (.ireturn, 1) := by decide +kernel
theorem dX12_paste_63 : decode cX12_paste 63 = .ok (.iload_n 2, 1) := by decide +kernel
theorem dX12_paste_64 : decode cX12_paste 64 = .ok (.ifCond .lt 48, 3) := by decide +kernel
theorem dX12_paste_67 : decode cX12_paste 67 = .ok (.iload 4, 2) := by decide +kernel
theorem dX12_paste_69 : decode cX12_paste 69 = .ok (.ifCond .lt 43, 3) := by decide +kernel
theorem dX12_paste_72 : decode cX12_paste 72 = .ok (.iload 5, 2) := by decide +kernel
theorem dX12_paste_74 : decode cX12_paste 74 = .ok (.ifCond .lt 38, 3) := by decide +kernel
theorem dX12_paste_77 : decode cX12_paste 77 = .ok (.iload_n 2, 1) := by decide +kernel
theorem dX12_paste_78 : decode cX12_paste 78 = .ok (.i2l, 1) := by decide +kernel
theorem dX12_paste_79 : decode cX12_paste 79 = .ok (.iload 5, 2) := by decide +kernel
theorem dX12_paste_81 : decode cX12_paste 81 = .ok (.i2l, 1) := by decide +kernel
theorem dX12_paste_82 : decode cX12_paste 82 = .ok (.ladd, 1) := by decide +kernel
theorem dX12_paste_83 : decode cX12_paste 83 = .ok (.aload_n 0, 1) := by decide +kernel
theorem dX12_paste_84 : decode cX12_paste 84 = .ok (.getfield 13, 3) := by decide +kernel
theorem dX12_paste_87 : decode cX12_paste 87 = .ok (.iload_n 1, 1) := by decide +kernel
theorem dX12_paste_88 : decode cX12_paste 88 = .ok (.iaload, 1) := by decide +kernel
theorem dX12_paste_89 : decode cX12_paste 89 = .ok (.i2l, 1) := by decide +kernel
theorem dX12_paste_90 : decode cX12_paste 90 = .ok (.lcmp, 1) := by decide +kernel
theorem dX12_paste_91 : decode cX12_paste 91 = .ok (.ifCond .gt 21, 3) := by decide +kernel
theorem dX12_paste_94 : decode cX12_paste 94 = .ok (.iload 4, 2) := by decide +kernel
theorem dX12_paste_96 : decode cX12_paste 96 = .ok (.i2l, 1) := by decide +kernel
theorem dX12_paste_97 : decode cX12_paste 97 = .ok (.iload 5, 2) := by decide +kernel
theorem dX12_paste_99 : decode cX12_paste 99 = .ok (.i2l, 1) := by decide +kernel
theorem dX12_paste_100 : decode cX12_paste 100 = .ok (.ladd, 1) := by decide +kernel
theorem dX12_paste_101 : decode cX12_paste 101 = .ok (.aload_n 0, 1) := by decide +kernel
theorem dX12_paste_102 : decode cX12_paste 102 = .ok (.getfield 13, 3) := by decide +kernel
theorem dX12_paste_105 : decode cX12_paste 105 = .ok (.iload_n 3, 1) := by decide +kernel
theorem dX12_paste_106 : decode cX12_paste 106 = .ok (.iaload, 1) := by decide +kernel
theorem dX12_paste_107 : decode cX12_paste 107 = .ok (.i2l, 1) := by decide +kernel
theorem dX12_paste_108 : decode cX12_paste 108 = .ok (.lcmp, 1) := by decide +kernel
theorem dX12_paste_109 : decode cX12_paste 109 = .ok (.ifCond .le 6, 3) := by decide +kernel
theorem dX12_paste_112 : decode cX12_paste 112 = .ok (.bipush (-7), 2) := by decide +kernel
theorem dX12_paste_114 : decode cX12_paste 114 = .ok (.ireturn, 1) := by decide +kernel
theorem dX12_paste_115 : decode cX12_paste 115 = .ok (.iconst 0, 1) := by decide +kernel
theorem dX12_paste_116 : decode cX12_paste 116 = .ok (.istore 6, 2) := by decide +kernel
theorem dX12_paste_118 : decode cX12_paste 118 = .ok (.iload 6, 2) := by decide +kernel
theorem dX12_paste_120 : decode cX12_paste 120 = .ok (.iload 5, 2) := by decide +kernel
theorem dX12_paste_122 : decode cX12_paste 122 = .ok (.if_icmp .ge 30, 3) := by decide +kernel
theorem dX12_paste_125 : decode cX12_paste 125 = .ok (.aload_n 0, 1) := by decide +kernel
theorem dX12_paste_126 : decode cX12_paste 126 = .ok (.getfield 20, 3) := by decide +kernel
theorem dX12_paste_129 : decode cX12_paste 129 = .ok (.iload 6, 2) := by decide +kernel
theorem dX12_paste_131 : decode cX12_paste 131 = .ok (.aload_n 0, 1) := by decide +kernel
theorem dX12_paste_132 : decode cX12_paste 132 = .ok (.getfield 16, 3) := by decide +kernel
theorem dX12_paste_135 : decode cX12_paste 135 = .ok (.bipush 60, 2) := by decide +kernel
theorem dX12_paste_137 : decode cX12_paste 137 = .ok (.iload_n 1, 1) := by decide +kernel
theorem dX12_paste_138 : decode cX12_paste 138 = .ok (.imul, 1) := by decide +kernel
theorem dX12_paste_139 : decode cX12_paste 139 = .ok (.iload_n 2, 1) := by decide +kernel
theorem dX12_paste_140 : decode cX12_paste 140 = .ok (.iadd, 1) := by decide +kernel
theorem dX12_paste_141 : decode cX12_paste 141 = .ok (.iload 6, 2) := by decide +kernel
theorem dX12_paste_143 : decode cX12_paste 143 = .ok (.iadd, 1) := by decide +kernel
theorem dX12_paste_144 : decode cX12_paste 144 = .ok (.laload, 1) := by decide +kernel
theorem dX12_paste_145 : decode cX12_paste 145 = .ok (.lastore, 1) := by decide +kernel
theorem dX12_paste_146 : decode cX12_paste 146 = .ok (.iinc 6 1, 3) := by decide +kernel
theorem dX12_paste_149 : decode cX12_paste 149 = .ok (.goto (-31), 3) := by decide +kernel
theorem dX12_paste_152 : decode cX12_paste 152 = .ok (.iconst 0, 1) := by decide +kernel
theorem dX12_paste_153 : decode cX12_paste 153 = .ok (.istore 6, 2) := by decide +kernel
theorem dX12_paste_155 : decode cX12_paste 155 = .ok (.iload 6, 2) := by decide +kernel
theorem dX12_paste_157 : decode cX12_paste 157 = .ok (.iload 5, 2) := by decide +kernel
theorem dX12_paste_159 : decode cX12_paste 159 = .ok (.if_icmp .ge 31, 3) := by decide +kernel
theorem dX12_paste_162 : decode cX12_paste 162 = .ok (.aload_n 0, 1) := by decide +kernel
theorem dX12_paste_163 : decode cX12_paste 163 = .ok (.getfield 16, 3) := by decide +kernel
theorem dX12_paste_166 : decode cX12_paste 166 = .ok (.bipush 60, 2) := by decide +kernel
theorem dX12_paste_168 : decode cX12_paste 168 = .ok (.iload_n 3, 1) := by decide +kernel
theorem dX12_paste_169 : decode cX12_paste 169 = .ok (.imul, 1) := by decide +kernel
theorem dX12_paste_170 : decode cX12_paste 170 = .ok (.iload 4, 2) := by decide +kernel
theorem dX12_paste_172 : decode cX12_paste 172 = .ok (.iadd, 1) := by decide +kernel
theorem dX12_paste_173 : decode cX12_paste 173 = .ok (.iload 6, 2) := by decide +kernel
theorem dX12_paste_175 : decode cX12_paste 175 = .ok (.iadd, 1) := by decide +kernel
theorem dX12_paste_176 : decode cX12_paste 176 = .ok (.aload_n 0, 1) := by decide +kernel
theorem dX12_paste_177 : decode cX12_paste 177 = .ok (.getfield 20, 3) := by decide +kernel
theorem dX12_paste_180 : decode cX12_paste 180 = .ok (.iload 6, 2) := by decide +kernel
theorem dX12_paste_182 : decode cX12_paste 182 = .ok (.laload, 1) := by decide +kernel
theorem dX12_paste_183 : decode cX12_paste 183 = .ok (.lastore, 1) := by decide +kernel
theorem dX12_paste_184 : decode cX12_paste 184 = .ok (.iinc 6 1, 3) := by decide +kernel
theorem dX12_paste_187 : decode cX12_paste 187 = .ok (.goto (-32), 3) := by decide +kernel
theorem dX12_paste_190 : decode cX12_paste 190 = .ok (.iconst 0, 1) := by decide +kernel
theorem dX12_paste_191 : decode cX12_paste 191 = .ok (.ireturn, 1) := by decide +kernel
theorem dX12_row_0 : decode cX12_row 0 = .ok (.aload_n 0, 1) := by decide +kernel
theorem dX12_row_1 : decode cX12_row 1 = .ok (.iconst 0, 1) := by decide +kernel
theorem dX12_row_2 : decode cX12_row 2 = .ok (.putfield 77, 3) := by decide +kernel
theorem dX12_row_5 : decode cX12_row 5 = .ok (.iload_n 1, 1) := by decide +kernel
theorem dX12_row_6 : decode cX12_row 6 = .ok (.invokestatic 86, 3) := by decide +kernel
theorem dX12_row_9 : decode cX12_row 9 = .ok (.ifCond .eq 21, 3) := by decide +kernel
theorem dX12_row_12 : decode cX12_row 12 = .ok (.iload_n 2, 1) := by decide +kernel
theorem dX12_row_13 : decode cX12_row 13 = .ok (.i2l, 1) := by decide +kernel
theorem dX12_row_14 : decode cX12_row 14 = .ok (.lconst 0, 1) := by decide +kernel
theorem dX12_row_15 : decode cX12_row 15 = .ok (.ldc2_w 80, 3) := by decide +kernel
theorem dX12_row_18 : decode cX12_row 18 = .ok (.invokestatic 82, 3) := by decide +kernel
theorem dX12_row_21 : decode cX12_row 21 = .ok (.ifCond .eq 9, 3) := by decide +kernel
theorem dX12_row_24 : decode cX12_row 24 = .ok (.iload_n 3, 1) := by decide +kernel
theorem dX12_row_25 : decode cX12_row 25 = .ok (.bipush 60, 2) := by decide +kernel
theorem dX12_row_27 : decode cX12_row 27 = .ok (.if_icmp .le 6, 3) := by decide +kernel
theorem dX12_row_30 : decode cX12_row 30 = .ok (.bipush (-2), 2) := by decide +kernel
theorem dX12_row_32 : decode cX12_row 32 = .ok (.ireturn, 1) := by decide +kernel
theorem dX12_row_33 : decode cX12_row 33 = .ok (.iload_n 3, 1) := by decide +kernel
theorem dX12_row_34 : decode cX12_row 34 = .ok (.ifCond .ge 6, 3) := by decide +kernel
theorem dX12_row_37 : decode cX12_row 37 = .ok (.bipush (-3), 2) := by decide +kernel
theorem dX12_row_39 : decode cX12_row 39 = .ok (.ireturn, 1) := by decide +kernel
theorem dX12_row_40 : decode cX12_row 40 = .ok (.aload_n 0, 1) := by decide +kernel
theorem dX12_row_41 : decode cX12_row 41 = .ok (.getfield 7, 3) := by decide +kernel
theorem dX12_row_44 : decode cX12_row 44 = .ok (.iload_n 1, 1) := by decide +kernel
theorem dX12_row_45 : decode cX12_row 45 = .ok (.iload_n 2, 1) := by decide +kernel
theorem dX12_row_46 : decode cX12_row 46 = .ok (.iastore, 1) := by decide +kernel
theorem dX12_row_47 : decode cX12_row 47 = .ok (.aload_n 0, 1) := by decide +kernel
theorem dX12_row_48 : decode cX12_row 48 = .ok (.getfield 13, 3) := by decide +kernel
theorem dX12_row_51 : decode cX12_row 51 = .ok (.iload_n 1, 1) := by decide +kernel
theorem dX12_row_52 : decode cX12_row 52 = .ok (.iload_n 3, 1) := by decide +kernel
theorem dX12_row_53 : decode cX12_row 53 = .ok (.iastore, 1) := by decide +kernel
theorem dX12_row_54 : decode cX12_row 54 = .ok (.iconst 0, 1) := by decide +kernel
theorem dX12_row_55 : decode cX12_row 55 = .ok (.istore 4, 2) := by decide +kernel
theorem dX12_row_57 : decode cX12_row 57 = .ok (.iload 4, 2) := by decide +kernel
theorem dX12_row_59 : decode cX12_row 59 = .ok (.iload_n 3, 1) := by decide +kernel
theorem dX12_row_60 : decode cX12_row 60 = .ok (.if_icmp .ge 22, 3) := by decide +kernel
theorem dX12_row_63 : decode cX12_row 63 = .ok (.aload_n 0, 1) := by decide +kernel
theorem dX12_row_64 : decode cX12_row 64 = .ok (.getfield 16, 3) := by decide +kernel
theorem dX12_row_67 : decode cX12_row 67 = .ok (.bipush 60, 2) := by decide +kernel
theorem dX12_row_69 : decode cX12_row 69 = .ok (.iload_n 1, 1) := by decide +kernel
theorem dX12_row_70 : decode cX12_row 70 = .ok (.imul, 1) := by decide +kernel
theorem dX12_row_71 : decode cX12_row 71 = .ok (.iload 4, 2) := by decide +kernel
theorem dX12_row_73 : decode cX12_row 73 = .ok (.iadd, 1) := by decide +kernel
theorem dX12_row_74 : decode cX12_row 74 = .ok (.lconst 0, 1) := by decide +kernel
theorem dX12_row_75 : decode cX12_row 75 = .ok (.lastore, 1) := by decide +kernel
theorem dX12_row_76 : decode cX12_row 76 = .ok (.iinc 4 1, 3) := by decide +kernel
theorem dX12_row_79 : decode cX12_row 79 = .ok (.goto (-22), 3) := by decide +kernel
theorem dX12_row_82 : decode cX12_row 82 = .ok (.iconst 0, 1) := by decide +kernel
theorem dX12_row_83 : decode cX12_row 83 = .ok (.ireturn, 1) := by decide +kernel
theorem dX12_write_0 : decode cX12_write 0 = .ok (.aload_n 0, 1) := by decide +kernel
theorem dX12_write_1 : decode cX12_write 1 = .ok (.iconst 0, 1) := by decide +kernel
theorem dX12_write_2 : decode cX12_write 2 = .ok (.putfield 77, 3) := by decide +kernel
theorem dX12_write_5 : decode cX12_write 5 = .ok (.iload_n 1, 1) := by decide +kernel
theorem dX12_write_6 : decode cX12_write 6 = .ok (.invokestatic 86, 3) := by decide +kernel
theorem dX12_write_9 : decode cX12_write 9 = .ok (.ifCond .ne 6, 3) := by decide +kernel
theorem dX12_write_12 : decode cX12_write 12 = .ok (.bipush (-2), 2) := by decide +kernel
theorem dX12_write_14 : decode cX12_write 14 = .ok (.ireturn, 1) := by decide +kernel
theorem dX12_write_15 : decode cX12_write 15 = .ok (.aload_n 0, 1) := by decide +kernel
theorem dX12_write_16 : decode cX12_write 16 = .ok (.getfield 7, 3) := by decide +kernel
theorem dX12_write_19 : decode cX12_write 19 = .ok (.iload_n 1, 1) := by decide +kernel
theorem dX12_write_20 : decode cX12_write 20 = .ok (.iaload, 1) := by decide +kernel
theorem dX12_write_21 : decode cX12_write 21 = .ok (.iconst (-1), 1) := by decide +kernel
theorem dX12_write_22 : decode cX12_write 22 = .ok (.if_icmp .ne 6, 3) := by decide +kernel
theorem dX12_write_25 : decode cX12_write 25 = .ok (.bipush (-6), 2) := by decide +kernel
theorem dX12_write_27 : decode cX12_write 27 = .ok (.ireturn, 1) := by decide +kernel
theorem dX12_write_28 : decode cX12_write 28 = .ok (.iload_n 2, 1) := by decide +kernel
theorem dX12_write_29 : decode cX12_write 29 = .ok (.i2l, 1) := by decide +kernel
theorem dX12_write_30 : decode cX12_write 30 = .ok (.lconst 0, 1) := by decide +kernel
theorem dX12_write_31 : decode cX12_write 31 = .ok (.aload_n 0, 1) := by decide +kernel
theorem dX12_write_32 : decode cX12_write 32 = .ok (.getfield 13, 3) := by decide +kernel
theorem dX12_write_35 : decode cX12_write 35 = .ok (.iload_n 1, 1) := by decide +kernel
theorem dX12_write_36 : decode cX12_write 36 = .ok (.iaload, 1) := by decide +kernel
theorem dX12_write_37 : decode cX12_write 37 = .ok (.iconst 1, 1) := by decide +kernel
theorem dX12_write_38 : decode cX12_write 38 = .ok (.isub, 1) := by decide +kernel
theorem dX12_write_39 : decode cX12_write 39 = .ok (.i2l, 1) := by decide +kernel
theorem dX12_write_40 : decode cX12_write 40 = .ok (.invokestatic 82, 3) := by decide +kernel
theorem dX12_write_43 : decode cX12_write 43 = .ok (.ifCond .ne 6, 3) := by decide +kernel
theorem dX12_write_46 : decode cX12_write 46 = .ok (.bipush (-7), 2) := by decide +kernel
theorem dX12_write_48 : decode cX12_write 48 = .ok (.ireturn, 1) := by decide +kernel
theorem dX12_write_49 : decode cX12_write 49 = .ok (.aload_n 0, 1) := by decide +kernel
theorem dX12_write_50 : decode cX12_write 50 = .ok (.getfield 16, 3) := by decide +kernel
theorem dX12_write_53 : decode cX12_write 53 = .ok (.bipush 60, 2) := by decide +kernel
theorem dX12_write_55 : decode cX12_write 55 = .ok (.iload_n 1, 1) := by decide +kernel
theorem dX12_write_56 : decode cX12_write 56 = .ok (.imul, 1) := by decide +kernel
theorem dX12_write_57 : decode cX12_write 57 = .ok (.iload_n 2, 1) := by decide +kernel
theorem dX12_write_58 : decode cX12_write 58 = .ok (.iadd, 1) := by decide +kernel
theorem dX12_write_59 : decode cX12_write 59 = .ok (.lload_n 3, 1) := by decide +kernel
theorem dX12_write_60 : decode cX12_write 60 = .ok (.aload_n 0, 1) := by decide +kernel
theorem dX12_write_61 : decode cX12_write 61 = .ok (.getfield 7, 3) := by decide +kernel
theorem dX12_write_64 : decode cX12_write 64 = .ok (.iload_n 1, 1) := by decide +kernel
theorem dX12_write_65 : decode cX12_write 65 = .ok (.iaload, 1) := by decide +kernel
theorem dX12_write_66 : decode cX12_write 66 = .ok (.invokestatic 90, 3) := by decide +kernel
theorem dX12_write_69 : decode cX12_write 69 = .ok (.lastore, 1) := by decide +kernel
theorem dX12_write_70 : decode cX12_write 70 = .ok (.iconst 0, 1) := by decide +kernel
theorem dX12_write_71 : decode cX12_write 71 = .ok (.ireturn, 1) := by decide +kernel
theorem hs_X12_cut : yX12_cut.cls ≠ "java/lang/invoke/MethodHandle" ∧ yX12_cut.cls ≠ "java/lang/invoke/VarHandle" ∧ (parseMethodDescriptor yX12_cut.desc).map (fun d => d.parameters.length) = some 2 := by decide +kernel
set_option maxHeartbeats 4000000 in
set_option maxRecDepth 100000 in
theorem M379_X12_row (l : Launch) (G : va_G) (cy : Nat → ClassId) (sz : Nat) (a_0 : Nat) (i_0 : Int32) (i_1 : Int32) (i_2 : Int32) (i_3 : Int32) (a_1 : Nat) (a_2 : Nat) (a_3 : Nat) (a_4 : Nat) (a_5 : Nat) (i_4 : Int32) (i_5 : Int32) (i_6 : Int32) (i_7 : Int32) (i_8 : Int32) (j_0 : Int64) (i_9 : Int32) (i_10 : Int32) (i_11 : Int32) (i_12 : Int32) (a_6 : Nat) (a_7 : Nat) (a_8 : Nat) (a_9 : Nat) (a_10 : Nat) (a_11 : Nat) (a_12 : Nat) (a_13 : Nat) (a_14 : Nat) (a_15 : Nat) (a_16 : Nat) (a_17 : Nat) (a_18 : Nat) (i_13 : Int32) (i_14 : Int32) (i_15 : Int32) (i_16 : Int32) (i_17 : Int32) (i_18 : Int32) (a_19 : Nat) (i_19 : Int32) (a_20 : Nat) (f_0 : Nat → Int32) (f_1 : Nat → Int32) (f_2 : Nat → Int64) (h0 : mm_ar f_0 (-1) 3) (h1 : mm_ar f_1 0 60)  : mm_CI l yX12_row (mm_ws yX12_row cX12_row 5 (some .int)) ({ frames := 2, cells := 0, slots := 0, locals := 45 } : Room) G cy sz [(a_0, .inr (12, [.int i_3, .ref a_1, .ref a_2, .ref a_3, .ref a_4, .ref a_5, .int i_4, .int i_5, .int i_6, .int i_7, .int i_8, .long j_0, .int i_9, .int i_10, .int i_11, .int i_12, .ref a_6, .ref a_7, .ref a_8, .ref a_9, .ref a_10, .ref a_11, .ref a_12, .ref a_13, .ref a_14, .ref a_15, .ref a_16, .ref a_17, .ref a_18, .int i_13, .int i_14, .int i_15, .int i_16, .int i_17, .int i_18, .ref a_19, .int i_19, .ref a_20])), (a_1, .inl (cy 1, 4, .inl f_0)), (a_2, .inl (cy 1, 4, .inl f_1)), (a_3, .inl (cy 2, 240, .inr (.inl f_2)))] [.ref a_0, .int i_0, .int i_1, .int i_2] (fun u : (Nat → Int32) × (Nat → Int32) × (Nat → Int64) => [(a_0, .inr (12, [.int 0, .ref a_1, .ref a_2, .ref a_3, .ref a_4, .ref a_5, .int i_4, .int i_5, .int i_6, .int i_7, .int i_8, .long j_0, .int i_9, .int i_10, .int i_11, .int i_12, .ref a_6, .ref a_7, .ref a_8, .ref a_9, .ref a_10, .ref a_11, .ref a_12, .ref a_13, .ref a_14, .ref a_15, .ref a_16, .ref a_17, .ref a_18, .int i_13, .int i_14, .int i_15, .int i_16, .int i_17, .int i_18, .ref a_19, .int i_19, .ref a_20])), (a_1, .inl (cy 1, 4, .inl u.1)), (a_2, .inl (cy 1, 4, .inl u.2.1)), (a_3, .inl (cy 2, 240, .inr (.inl u.2.2)))]) (fun (r : Int32) (u : (Nat → Int32) × (Nat → Int32) × (Nat → Int64)) => mm_ar u.1 (-1) 3 ∧ mm_ar u.2.1 0 60 ∧ mm_rg r (-3) 0) 0 0 := by
  refine mm_begin (lv := [(0, .ref a_0), (1, .int i_0), (2, .int i_1), (3, .int i_2)]) (by decide) (Nat.le_of_ble_eq_true rfl) rfl ?_
  intro p e s m below meth c A ls R args Q H locs hRe hQ hAe hx hb hr hlocks hml hown hnm hts hsz hA hS hP hK hD hZ hl
  have hRf : R.frames = 2 := by rw [hRe]
  have hRl : R.locals = 45 := by rw [hRe]
  have hRc : R.cells = 0 := by rw [hRe]
  have hRs : R.slots = 0 := by rw [hRe]
  refine lv_aload_n hx hb dX12_row_0 rfl (lv_at hl 0 rfl) ?_
  refine lv_iconst (v := 0) hx hb dX12_row_1 (by decide) ?_
  refine va_put (D := G) (ci := 12) (v := .int 0) (ty := tyX12 0) (C := RX12) (T := TX12) (N := 38) hx hb hts (mm_i inlX12) tyX12 tyX12_ok nmX12 hown hK.1 hP hD hS 0 rfl rfl 0 (by decide) (mm_h hts mm_w177) (fun _ h9 => h9) rfl (tyX12_ok 0 (by decide)) rfl rfl (Nat.le_of_ble_eq_true rfl) dX12_row_2 ?_
  clear hP hD hS
  clear H locs
  intro H locs (hP : va_P G vwCl [(a_0, .inr (12, [.int 0, .ref a_1, .ref a_2, .ref a_3, .ref a_4, .ref a_5, .int i_4, .int i_5, .int i_6, .int i_7, .int i_8, .long j_0, .int i_9, .int i_10, .int i_11, .int i_12, .ref a_6, .ref a_7, .ref a_8, .ref a_9, .ref a_10, .ref a_11, .ref a_12, .ref a_13, .ref a_14, .ref a_15, .ref a_16, .ref a_17, .ref a_18, .int i_13, .int i_14, .int i_15, .int i_16, .int i_17, .int i_18, .ref a_19, .int i_19, .ref a_20])), (a_1, .inl (cy 1, 4, .inl f_0)), (a_2, .inl (cy 1, 4, .inl f_1)), (a_3, .inl (cy 2, 240, .inr (.inl f_2)))] H) (hD : va_D A [(a_0, .inr (12, [.int 0, .ref a_1, .ref a_2, .ref a_3, .ref a_4, .ref a_5, .int i_4, .int i_5, .int i_6, .int i_7, .int i_8, .long j_0, .int i_9, .int i_10, .int i_11, .int i_12, .ref a_6, .ref a_7, .ref a_8, .ref a_9, .ref a_10, .ref a_11, .ref a_12, .ref a_13, .ref a_14, .ref a_15, .ref a_16, .ref a_17, .ref a_18, .int i_13, .int i_14, .int i_15, .int i_16, .int i_17, .int i_18, .ref a_19, .int i_19, .ref a_20])), (a_1, .inl (cy 1, 4, .inl f_0)), (a_2, .inl (cy 1, 4, .inl f_1)), (a_3, .inl (cy 2, 240, .inr (.inl f_2)))]) hS
  refine lv_iload_n hx hb dX12_row_5 rfl (lv_at hl 1 rfl) ?_
  refine mm_finir (va_runS (As := [.int i_0]) (rest := []) ⟨hx, hb, hml, hown, hts⟩ (M197_X12_isSlot l G cy H.size i_0 ) (va_cwS 1 hts (mm_gS mm_w1269 mm_w1270 mm_w5 mm_w1271) rfl rfl rfl hs_X12_isSlot ⟨by rw [hRf]; exact Nat.le_of_ble_eq_true rfl, by rw [hRl]; exact Nat.le_of_ble_eq_true rfl⟩) (mm_preS hK hZ hS hA hP hD [] rfl rfl) rfl rfl hl.1 rfl (lv_room (Nat.le_of_ble_eq_true rfl)) dX12_row_6 ⟨by rw [hRc]; exact Nat.le_of_ble_eq_true rfl, by rw [hRs]; exact Nat.le_of_ble_eq_true rfl⟩) hP hD hS hA [] rfl (fun _ => rfl) ?_
  clear hP hD hS
  clear H locs
  intro v1 _u H locs hw hP hD hS
  rcases hw with rfl | ⟨rfl, w2⟩
  · refine lv_if_eq (tgt := 30) hx hb dX12_row_9 (by decide) (fun c3 => ?_) (fun c3 => ?_)
    · refine lv_bipush (v := (-2)) hx hb dX12_row_30 (by decide) ?_
      subst hAe
      rw [hQ]
      exact W.iret (v := (-2)) hx hb hr (fun t ht hW => ⟨⟨(-2), (f_0, f_1, f_2), rfl, ⟨h0, h1, (mm_wk mm_km2 (by decide))⟩, by rw [ht]; exact hP, hK.warm hW, hD⟩, hS.F ht⟩) hS.2.2 dX12_row_32
    · have q4 := mm_neL (lo := 1) (mm_ne c3) mm_k0 mm_k0 (by decide) (by decide)
      exact mm_no q4 (by decide)
  · refine lv_if_eq (tgt := 30) hx hb dX12_row_9 (by decide) (fun c5 => ?_) (fun c5 => ?_)
    · exact mm_eqN c5.symm mm_k0 mm_k1 (by decide)
    · refine lv_iload_n hx hb dX12_row_12 rfl (lv_at hl 2 rfl) ?_
      obtain ⟨v6, ev6⟩ : ∃ y : Int64, y = i_1.toInt64 := ⟨_, rfl⟩
      refine lv_i2l hx hb dX12_row_13 ev6.symm ?_
      have rv6 : mm_rl v6 (-2147483648) 2147483647 := mm_i2l ev6 (mm_top i_1)
      refine lv_lconst (v := 0) hx hb dX12_row_14 (by decide) ?_
      refine lv_ldc2 (v := 3) hx hb hown (mm_h hts mm_w1272) dX12_row_15 ?_
      refine mm_finir (va_runS (As := [.long v6, .long 0, .long 3]) (rest := []) ⟨hx, hb, hml, hown, hts⟩ (M7_X12_in l G cy H.size v6 3 ) (va_cwS 3 hts (mm_gS mm_w191 mm_w192 mm_w5 mm_w193) rfl rfl rfl hs_X12_in ⟨by rw [hRf]; exact Nat.le_of_ble_eq_true rfl, by rw [hRl]; exact Nat.le_of_ble_eq_true rfl⟩) (mm_preS hK hZ hS hA hP hD [] rfl rfl) rfl rfl hl.1 rfl (lv_room (Nat.le_of_ble_eq_true rfl)) dX12_row_18 ⟨by rw [hRc]; exact Nat.le_of_ble_eq_true rfl, by rw [hRs]; exact Nat.le_of_ble_eq_true rfl⟩) hP hD hS hA [] rfl (fun _ => rfl) ?_
      clear hP hD hS
      clear H locs
      intro v7 _u H locs hw hP hD hS
      rcases hw with ⟨rfl, w8⟩ | ⟨rfl, w9, w10, w11, w12⟩
      · refine lv_if_eq (tgt := 30) hx hb dX12_row_21 (by decide) (fun c13 => ?_) (fun c13 => ?_)
        · refine lv_bipush (v := (-2)) hx hb dX12_row_30 (by decide) ?_
          subst hAe
          rw [hQ]
          exact W.iret (v := (-2)) hx hb hr (fun t ht hW => ⟨⟨(-2), (f_0, f_1, f_2), rfl, ⟨h0, h1, (mm_wk mm_km2 (by decide))⟩, by rw [ht]; exact hP, hK.warm hW, hD⟩, hS.F ht⟩) hS.2.2 dX12_row_32
        · have q14 := mm_neL (lo := 1) (mm_ne c13) mm_k0 mm_k0 (by decide) (by decide)
          exact mm_no q14 (by decide)
      · have q15 := mm_meetl (lo := 0) (hi := 2147483647) w9 rv6 (by decide)
        have q16 := mm_meet (lo := 0) (hi := 2147483647) (mm_l2x ev6 q15) (mm_top i_1) (by decide)
        have q17 := mm_leLl w11 q15 mm_kl3
        have q18 := mm_meet (lo := 0) (hi := 3) (mm_l2x ev6 q17) q16 (by decide)
        refine lv_if_eq (tgt := 30) hx hb dX12_row_21 (by decide) (fun c19 => ?_) (fun c19 => ?_)
        · exact mm_eqN c19.symm mm_k0 mm_k1 (by decide)
        · refine lv_iload_n hx hb dX12_row_24 rfl (lv_at hl 3 rfl) ?_
          refine lv_bipush (v := 60) hx hb dX12_row_25 (by decide) ?_
          refine lv_icmp_le (tgt := 33) hx hb dX12_row_27 (by decide) (fun c20 => ?_) (fun c20 => ?_)
          · have q21 := mm_leL (mm_le c20) (mm_top i_2) mm_k60
            refine lv_iload_n hx hb dX12_row_33 rfl (lv_at hl 3 rfl) ?_
            refine lv_if_ge (tgt := 40) hx hb dX12_row_34 (by decide) (fun c22 => ?_) (fun c22 => ?_)
            · have q23 := mm_leR (mm_le c22) mm_k0 q21
              refine lv_aload_n hx hb dX12_row_40 rfl (lv_at hl 0 rfl) ?_
              refine va_get (D := G) (ci := 12) (v := .ref a_1) (C := RX12) (T := TX12) (N := 38) hx hb hts (mm_i inlX12) hown hK.1 hP 0 rfl rfl 1 (by decide) (mm_h hts mm_w142) (fun _ h9 => h9) rfl dX12_row_41 ?_
              refine lv_iload_n hx hb dX12_row_44 rfl (lv_at hl 1 rfl) ?_
              refine lv_iload_n hx hb dX12_row_45 rfl (lv_at hl 2 rfl) ?_
              refine va_iast hx hb hK.1 hP hD hS 1 1 rfl rfl (mm_in w2 (by decide)) dX12_row_46 ?_
              clear hP hD hS
              clear H locs
              obtain ⟨g24, eg24⟩ : ∃ z : Nat → Int32, z = upd f_0 i_0.toNatClampNeg i_1 := ⟨_, rfl⟩
              rw [← eg24]
              intro H locs (hP : va_P G vwCl [(a_0, .inr (12, [.int 0, .ref a_1, .ref a_2, .ref a_3, .ref a_4, .ref a_5, .int i_4, .int i_5, .int i_6, .int i_7, .int i_8, .long j_0, .int i_9, .int i_10, .int i_11, .int i_12, .ref a_6, .ref a_7, .ref a_8, .ref a_9, .ref a_10, .ref a_11, .ref a_12, .ref a_13, .ref a_14, .ref a_15, .ref a_16, .ref a_17, .ref a_18, .int i_13, .int i_14, .int i_15, .int i_16, .int i_17, .int i_18, .ref a_19, .int i_19, .ref a_20])), (a_1, .inl (cy 1, 4, .inl g24)), (a_2, .inl (cy 1, 4, .inl f_1)), (a_3, .inl (cy 2, 240, .inr (.inl f_2)))] H) (hD : va_D A [(a_0, .inr (12, [.int 0, .ref a_1, .ref a_2, .ref a_3, .ref a_4, .ref a_5, .int i_4, .int i_5, .int i_6, .int i_7, .int i_8, .long j_0, .int i_9, .int i_10, .int i_11, .int i_12, .ref a_6, .ref a_7, .ref a_8, .ref a_9, .ref a_10, .ref a_11, .ref a_12, .ref a_13, .ref a_14, .ref a_15, .ref a_16, .ref a_17, .ref a_18, .int i_13, .int i_14, .int i_15, .int i_16, .int i_17, .int i_18, .ref a_19, .int i_19, .ref a_20])), (a_1, .inl (cy 1, 4, .inl g24)), (a_2, .inl (cy 1, 4, .inl f_1)), (a_3, .inl (cy 2, 240, .inr (.inl f_2)))]) hS
              have rg24 : mm_ar g24 (-1) 3 := by rw [eg24]; exact mm_ar_upd (mm_ar_wk h0 (by decide)) (mm_wk q18 (by decide)) _
              refine lv_aload_n hx hb dX12_row_47 rfl (lv_at hl 0 rfl) ?_
              refine va_get (D := G) (ci := 12) (v := .ref a_2) (C := RX12) (T := TX12) (N := 38) hx hb hts (mm_i inlX12) hown hK.1 hP 0 rfl rfl 2 (by decide) (mm_h hts mm_w143) (fun _ h9 => h9) rfl dX12_row_48 ?_
              refine lv_iload_n hx hb dX12_row_51 rfl (lv_at hl 1 rfl) ?_
              refine lv_iload_n hx hb dX12_row_52 rfl (lv_at hl 3 rfl) ?_
              refine va_iast hx hb hK.1 hP hD hS 2 1 rfl rfl (mm_in w2 (by decide)) dX12_row_53 ?_
              clear hP hD hS
              clear H locs
              obtain ⟨g25, eg25⟩ : ∃ z : Nat → Int32, z = upd f_1 i_0.toNatClampNeg i_2 := ⟨_, rfl⟩
              rw [← eg25]
              intro H locs (hP : va_P G vwCl [(a_0, .inr (12, [.int 0, .ref a_1, .ref a_2, .ref a_3, .ref a_4, .ref a_5, .int i_4, .int i_5, .int i_6, .int i_7, .int i_8, .long j_0, .int i_9, .int i_10, .int i_11, .int i_12, .ref a_6, .ref a_7, .ref a_8, .ref a_9, .ref a_10, .ref a_11, .ref a_12, .ref a_13, .ref a_14, .ref a_15, .ref a_16, .ref a_17, .ref a_18, .int i_13, .int i_14, .int i_15, .int i_16, .int i_17, .int i_18, .ref a_19, .int i_19, .ref a_20])), (a_1, .inl (cy 1, 4, .inl g24)), (a_2, .inl (cy 1, 4, .inl g25)), (a_3, .inl (cy 2, 240, .inr (.inl f_2)))] H) (hD : va_D A [(a_0, .inr (12, [.int 0, .ref a_1, .ref a_2, .ref a_3, .ref a_4, .ref a_5, .int i_4, .int i_5, .int i_6, .int i_7, .int i_8, .long j_0, .int i_9, .int i_10, .int i_11, .int i_12, .ref a_6, .ref a_7, .ref a_8, .ref a_9, .ref a_10, .ref a_11, .ref a_12, .ref a_13, .ref a_14, .ref a_15, .ref a_16, .ref a_17, .ref a_18, .int i_13, .int i_14, .int i_15, .int i_16, .int i_17, .int i_18, .ref a_19, .int i_19, .ref a_20])), (a_1, .inl (cy 1, 4, .inl g24)), (a_2, .inl (cy 1, 4, .inl g25)), (a_3, .inl (cy 2, 240, .inr (.inl f_2)))]) hS
              have rg25 : mm_ar g25 0 60 := by rw [eg25]; exact mm_ar_upd (mm_ar_wk h1 (by decide)) (mm_wk q23 (by decide)) _
              refine lv_iconst (v := 0) hx hb dX12_row_54 (by decide) ?_
              refine lv_istore (lv' := [(4, .int 0), (0, .ref a_0), (1, .int i_0), (2, .int i_1), (3, .int i_2)]) hx hb dX12_row_55 hl (by decide) rfl ?_
              clear hl
              clear ls
              intro ls hl
              have L57_124 : ∀ (n : Nat) (x57_4_123 : Int32) (z57_3_124 : Nat → Int64), mm_rg x57_4_123 0 60 → (60 - x57_4_123.toInt).toNat < n → ∀ (H : Heap) (locs : List Loc), va_P G vwCl [(a_0, .inr (12, [.int 0, .ref a_1, .ref a_2, .ref a_3, .ref a_4, .ref a_5, .int i_4, .int i_5, .int i_6, .int i_7, .int i_8, .long j_0, .int i_9, .int i_10, .int i_11, .int i_12, .ref a_6, .ref a_7, .ref a_8, .ref a_9, .ref a_10, .ref a_11, .ref a_12, .ref a_13, .ref a_14, .ref a_15, .ref a_16, .ref a_17, .ref a_18, .int i_13, .int i_14, .int i_15, .int i_16, .int i_17, .int i_18, .ref a_19, .int i_19, .ref a_20])), (a_1, .inl (cy 1, 4, .inl g24)), (a_2, .inl (cy 1, 4, .inl g25)), (a_3, .inl (cy 2, 240, .inr (.inl z57_3_124)))] H → va_D A [(a_0, .inr (12, [.int 0, .ref a_1, .ref a_2, .ref a_3, .ref a_4, .ref a_5, .int i_4, .int i_5, .int i_6, .int i_7, .int i_8, .long j_0, .int i_9, .int i_10, .int i_11, .int i_12, .ref a_6, .ref a_7, .ref a_8, .ref a_9, .ref a_10, .ref a_11, .ref a_12, .ref a_13, .ref a_14, .ref a_15, .ref a_16, .ref a_17, .ref a_18, .int i_13, .int i_14, .int i_15, .int i_16, .int i_17, .int i_18, .ref a_19, .int i_19, .ref a_20])), (a_1, .inl (cy 1, 4, .inl g24)), (a_2, .inl (cy 1, 4, .inl g25)), (a_3, .inl (cy 2, 240, .inr (.inl z57_3_124)))] → va_S A s.heap H locs → ∀ (ls : Array Slot), lv_has ls 5 [(4, .int x57_4_123), (0, .ref a_0), (1, .int i_0), (2, .int i_1), (3, .int i_2)] → W p l e R s m args below meth c H locs 0 0 Q (F0 m 57 ls []) := by
                intro n
                induction n with
                | zero => intro x57_4_123 z57_3_124 rx57_4_123 hm; exact absurd hm (Nat.not_lt_zero _)
                | succ n ih57 =>
                  intro x57_4_123 z57_3_124 rx57_4_123 hm57 H locs hP hD hS ls hl
                  refine lv_iload hx hb dX12_row_57 (lv_at hl 0 rfl) ?_
                  refine lv_iload_n hx hb dX12_row_59 rfl (lv_at hl 4 rfl) ?_
                  refine lv_icmp_ge (tgt := 82) hx hb dX12_row_60 (by decide) (fun c126 => ?_) (fun c126 => ?_)
                  · refine lv_iconst (v := 0) hx hb dX12_row_82 (by decide) ?_
                    subst hAe
                    rw [hQ]
                    exact W.iret (v := 0) hx hb hr (fun t ht hW => ⟨⟨0, (g24, g25, z57_3_124), rfl, ⟨rg24, rg25, (mm_wk mm_k0 (by decide))⟩, by rw [ht]; exact hP, hK.warm hW, hD⟩, hS.F ht⟩) hS.2.2 dX12_row_83
                  · have q127 := mm_ltL (h := 59) (mm_nle c126) rx57_4_123 q23 (by decide)
                    have q128 := mm_ltR (lo := 1) (mm_nle c126) rx57_4_123 q23 (by decide)
                    refine lv_aload_n hx hb dX12_row_63 rfl (lv_at hl 1 rfl) ?_
                    refine va_get (D := G) (ci := 12) (v := .ref a_3) (C := RX12) (T := TX12) (N := 38) hx hb hts (mm_i inlX12) hown hK.1 hP 0 rfl rfl 3 (by decide) (mm_h hts mm_w144) (fun _ h9 => h9) rfl dX12_row_64 ?_
                    refine lv_bipush (v := 60) hx hb dX12_row_67 (by decide) ?_
                    refine lv_iload_n hx hb dX12_row_69 rfl (lv_at hl 2 rfl) ?_
                    refine lv_imul hx hb dX12_row_70 ?_
                    refine lv_topi (fun v129 ev129 => ?_)
                    have rv129 : mm_rg v129 0 180 := mm_mul ev129 mm_k60 w2 (by decide) (by decide)
                    have tv129 := mm_mulEc ev129 mm_k60 w2 (by decide) (k := 60) (by decide)
                    refine lv_iload hx hb dX12_row_71 (lv_at hl 0 rfl) ?_
                    refine lv_iadd hx hb dX12_row_73 ?_
                    refine lv_topi (fun v130 ev130 => ?_)
                    have rv130 : mm_rg v130 0 239 := mm_add ev130 rv129 q127 (by decide) (by decide)
                    have tv130 := mm_addE ev130 rv129 q127 (by decide)
                    refine lv_lconst (v := 0) hx hb dX12_row_74 (by decide) ?_
                    refine va_last hx hb hK.1 hP hD hS 3 2 rfl rfl (mm_in rv130 (by decide)) dX12_row_75 ?_
                    clear hP hD hS
                    clear H locs
                    obtain ⟨g131, eg131⟩ : ∃ z : Nat → Int64, z = vp_updL z57_3_124 v130.toNatClampNeg 0 := ⟨_, rfl⟩
                    rw [← eg131]
                    intro H locs (hP : va_P G vwCl [(a_0, .inr (12, [.int 0, .ref a_1, .ref a_2, .ref a_3, .ref a_4, .ref a_5, .int i_4, .int i_5, .int i_6, .int i_7, .int i_8, .long j_0, .int i_9, .int i_10, .int i_11, .int i_12, .ref a_6, .ref a_7, .ref a_8, .ref a_9, .ref a_10, .ref a_11, .ref a_12, .ref a_13, .ref a_14, .ref a_15, .ref a_16, .ref a_17, .ref a_18, .int i_13, .int i_14, .int i_15, .int i_16, .int i_17, .int i_18, .ref a_19, .int i_19, .ref a_20])), (a_1, .inl (cy 1, 4, .inl g24)), (a_2, .inl (cy 1, 4, .inl g25)), (a_3, .inl (cy 2, 240, .inr (.inl g131)))] H) (hD : va_D A [(a_0, .inr (12, [.int 0, .ref a_1, .ref a_2, .ref a_3, .ref a_4, .ref a_5, .int i_4, .int i_5, .int i_6, .int i_7, .int i_8, .long j_0, .int i_9, .int i_10, .int i_11, .int i_12, .ref a_6, .ref a_7, .ref a_8, .ref a_9, .ref a_10, .ref a_11, .ref a_12, .ref a_13, .ref a_14, .ref a_15, .ref a_16, .ref a_17, .ref a_18, .int i_13, .int i_14, .int i_15, .int i_16, .int i_17, .int i_18, .ref a_19, .int i_19, .ref a_20])), (a_1, .inl (cy 1, 4, .inl g24)), (a_2, .inl (cy 1, 4, .inl g25)), (a_3, .inl (cy 2, 240, .inr (.inl g131)))]) hS
                    obtain ⟨v132, ev132⟩ : ∃ y : Int32, y = x57_4_123 + 1 := ⟨_, rfl⟩
                    refine lv_iinc (v := v132) (lv' := [(4, .int v132), (0, .ref a_0), (1, .int i_0), (2, .int i_1), (3, .int i_2)]) hx hb dX12_row_76 hl (k := 0) rfl (by rw [ev132]; rfl) (by decide) rfl ?_
                    clear hl
                    clear ls
                    intro ls hl
                    have rv132 : mm_rg v132 1 60 := mm_add ev132 q127 mm_k1 (by decide) (by decide)
                    have tv132 := mm_addEc ev132 q127 mm_k1 (by decide) (k := 1) (by decide)
                    refine lv_goto (tgt := 57) hx hb dX12_row_79 (by decide) ?_
                    exact ih57 v132 g131 (mm_wk rv132 (by decide)) (mm_mu hm57 tv132 (by decide) (rv132).2 (by decide)) H locs hP hD hS ls (lv_sub hl [0, 1, 2, 3, 4] rfl)
              exact L57_124 _ 0 f_2 (mm_wk mm_k0 (by decide)) (Nat.lt_succ_self _) H locs hP hD hS ls (lv_sub hl [0, 1, 2, 3, 4] rfl)
            · have q133 := mm_ltL (h := (-1)) (mm_nle c22) q21 mm_k0 (by decide)
              refine lv_bipush (v := (-3)) hx hb dX12_row_37 (by decide) ?_
              subst hAe
              rw [hQ]
              exact W.iret (v := (-3)) hx hb hr (fun t ht hW => ⟨⟨(-3), (f_0, f_1, f_2), rfl, ⟨h0, h1, (mm_wk mm_km3 (by decide))⟩, by rw [ht]; exact hP, hK.warm hW, hD⟩, hS.F ht⟩) hS.2.2 dX12_row_39
          · have q134 := mm_ltR (lo := 61) (mm_nle c20) mm_k60 (mm_top i_2) (by decide)
            refine lv_bipush (v := (-2)) hx hb dX12_row_30 (by decide) ?_
            subst hAe
            rw [hQ]
            exact W.iret (v := (-2)) hx hb hr (fun t ht hW => ⟨⟨(-2), (f_0, f_1, f_2), rfl, ⟨h0, h1, (mm_wk mm_km2 (by decide))⟩, by rw [ht]; exact hP, hK.warm hW, hD⟩, hS.F ht⟩) hS.2.2 dX12_row_32

set_option maxHeartbeats 4000000 in
set_option maxRecDepth 100000 in
theorem M380_X12_cut (l : Launch) (G : va_G) (cy : Nat → ClassId) (sz : Nat) (j_0 : Int64) (i_0 : Int32) (h0 : mm_rg i_0 0 9)  : mm_CL l yX12_cut (mm_ws yX12_cut cX12_cut 3 (some .long)) ({ frames := 0, cells := 0, slots := 0, locals := 0 } : Room) G cy sz [] [.long j_0, .int i_0] (fun u : Unit => []) (fun (r : Int64) (u : Unit) => True) 0 0 := by
  refine mm_begin (lv := [(0, .long j_0), (2, .int i_0)]) (by decide) (Nat.le_of_ble_eq_true rfl) rfl ?_
  intro p e s m below meth c A ls R args Q H locs hRe hQ hAe hx hb hr hlocks hml hown hnm hts hsz hA hS hP hK hD hZ hl
  have hRf : R.frames = 0 := by rw [hRe]
  have hRl : R.locals = 0 := by rw [hRe]
  have hRc : R.cells = 0 := by rw [hRe]
  have hRs : R.slots = 0 := by rw [hRe]
  refine lv_iload_n hx hb dX12_cut_0 rfl (lv_at hl 1 rfl) ?_
  refine lv_if_ne (tgt := 11) hx hb dX12_cut_1 (by decide) (fun c1 => ?_) (fun c1 => ?_)
  · have q2 := mm_neL (lo := 1) (mm_ne c1) h0 mm_k0 (by decide) (by decide)
    refine lv_iload_n hx hb dX12_cut_11 rfl (lv_at hl 1 rfl) ?_
    refine lv_iconst (v := 1) hx hb dX12_cut_12 (by decide) ?_
    refine lv_icmp_ne (tgt := 23) hx hb dX12_cut_13 (by decide) (fun c3 => ?_) (fun c3 => ?_)
    · have q4 := mm_neL (lo := 2) (mm_ne c3) q2 mm_k1 (by decide) (by decide)
      refine lv_iload_n hx hb dX12_cut_23 rfl (lv_at hl 1 rfl) ?_
      refine lv_iconst (v := 2) hx hb dX12_cut_24 (by decide) ?_
      refine lv_icmp_ne (tgt := 34) hx hb dX12_cut_25 (by decide) (fun c5 => ?_) (fun c5 => ?_)
      · have q6 := mm_neL (lo := 3) (mm_ne c5) q4 mm_k2 (by decide) (by decide)
        refine lv_lload_n hx hb dX12_cut_34 rfl (lv_at hl 0 rfl) ?_
        subst hAe
        rw [hQ]
        exact W.lret (v := j_0) hx hb hr (fun t ht hW => ⟨⟨j_0, (), rfl, trivial, by rw [ht]; exact hP, hK.warm hW, hD⟩, hS.F ht⟩) hS.2.2 dX12_cut_35
      · have q7 := mm_eqI (lo := 2) (hi := 2) c5 q4 mm_k2 (by decide)
        refine lv_lload_n hx hb dX12_cut_28 rfl (lv_at hl 0 rfl) ?_
        obtain ⟨v8, ev8⟩ : ∃ y : Int32, y = j_0.toInt32 := ⟨_, rfl⟩
        refine lv_l2i hx hb dX12_cut_29 ev8.symm ?_
        obtain ⟨v9, ev9⟩ : ∃ y : Int64, y = v8.toInt64 := ⟨_, rfl⟩
        refine lv_i2l hx hb dX12_cut_30 ev9.symm ?_
        have rv9 : mm_rl v9 (-2147483648) 2147483647 := mm_i2l ev9 (mm_top v8)
        refine lv_goto (tgt := 35) hx hb dX12_cut_31 (by decide) ?_
        subst hAe
        rw [hQ]
        exact W.lret (v := v9) hx hb hr (fun t ht hW => ⟨⟨v9, (), rfl, trivial, by rw [ht]; exact hP, hK.warm hW, hD⟩, hS.F ht⟩) hS.2.2 dX12_cut_35
    · have q10 := mm_eqI (lo := 1) (hi := 1) c3 q2 mm_k1 (by decide)
      refine lv_lload_n hx hb dX12_cut_16 rfl (lv_at hl 0 rfl) ?_
      obtain ⟨v11, ev11⟩ : ∃ y : Int32, y = j_0.toInt32 := ⟨_, rfl⟩
      refine lv_l2i hx hb dX12_cut_17 ev11.symm ?_
      obtain ⟨v12, ev12⟩ : ∃ y : Int32, y = v11.toInt16.toInt32 := ⟨_, rfl⟩
      refine lv_i2s hx hb dX12_cut_18 ev12.symm ?_
      obtain ⟨v13, ev13⟩ : ∃ y : Int64, y = v12.toInt64 := ⟨_, rfl⟩
      refine lv_i2l hx hb dX12_cut_19 ev13.symm ?_
      have rv13 : mm_rl v13 (-2147483648) 2147483647 := mm_i2l ev13 (mm_top v12)
      refine lv_goto (tgt := 35) hx hb dX12_cut_20 (by decide) ?_
      subst hAe
      rw [hQ]
      exact W.lret (v := v13) hx hb hr (fun t ht hW => ⟨⟨v13, (), rfl, trivial, by rw [ht]; exact hP, hK.warm hW, hD⟩, hS.F ht⟩) hS.2.2 dX12_cut_35
  · have q14 := mm_eqI (lo := 0) (hi := 0) c1 h0 mm_k0 (by decide)
    refine lv_lload_n hx hb dX12_cut_4 rfl (lv_at hl 0 rfl) ?_
    obtain ⟨v15, ev15⟩ : ∃ y : Int32, y = j_0.toInt32 := ⟨_, rfl⟩
    refine lv_l2i hx hb dX12_cut_5 ev15.symm ?_
    obtain ⟨v16, ev16⟩ : ∃ y : Int32, y = v15.toInt8.toInt32 := ⟨_, rfl⟩
    refine lv_i2b hx hb dX12_cut_6 ev16.symm ?_
    have rv16 : mm_rg v16 (-128) 127 := mm_i2b ev16
    obtain ⟨v17, ev17⟩ : ∃ y : Int64, y = v16.toInt64 := ⟨_, rfl⟩
    refine lv_i2l hx hb dX12_cut_7 ev17.symm ?_
    have rv17 : mm_rl v17 (-128) 127 := mm_i2l ev17 rv16
    refine lv_goto (tgt := 35) hx hb dX12_cut_8 (by decide) ?_
    subst hAe
    rw [hQ]
    exact W.lret (v := v17) hx hb hr (fun t ht hW => ⟨⟨v17, (), rfl, trivial, by rw [ht]; exact hP, hK.warm hW, hD⟩, hS.F ht⟩) hS.2.2 dX12_cut_35

set_option maxHeartbeats 4000000 in
set_option maxRecDepth 100000 in
theorem M381_X12_write (l : Launch) (G : va_G) (cy : Nat → ClassId) (sz : Nat) (a_0 : Nat) (i_0 : Int32) (i_1 : Int32) (j_0 : Int64) (i_2 : Int32) (a_1 : Nat) (a_2 : Nat) (a_3 : Nat) (a_4 : Nat) (a_5 : Nat) (i_3 : Int32) (i_4 : Int32) (i_5 : Int32) (i_6 : Int32) (i_7 : Int32) (j_1 : Int64) (i_8 : Int32) (i_9 : Int32) (i_10 : Int32) (i_11 : Int32) (a_6 : Nat) (a_7 : Nat) (a_8 : Nat) (a_9 : Nat) (a_10 : Nat) (a_11 : Nat) (a_12 : Nat) (a_13 : Nat) (a_14 : Nat) (a_15 : Nat) (a_16 : Nat) (a_17 : Nat) (a_18 : Nat) (i_12 : Int32) (i_13 : Int32) (i_14 : Int32) (i_15 : Int32) (i_16 : Int32) (i_17 : Int32) (a_19 : Nat) (i_18 : Int32) (a_20 : Nat) (f_0 : Nat → Int32) (f_1 : Nat → Int32) (f_2 : Nat → Int64) (h0 : mm_ar f_0 (-1) 3) (h1 : mm_ar f_1 0 60)  : mm_CI l yX12_write (mm_ws yX12_write cX12_write 5 (some .int)) ({ frames := 2, cells := 0, slots := 0, locals := 45 } : Room) G cy sz [(a_0, .inr (12, [.int i_2, .ref a_1, .ref a_2, .ref a_3, .ref a_4, .ref a_5, .int i_3, .int i_4, .int i_5, .int i_6, .int i_7, .long j_1, .int i_8, .int i_9, .int i_10, .int i_11, .ref a_6, .ref a_7, .ref a_8, .ref a_9, .ref a_10, .ref a_11, .ref a_12, .ref a_13, .ref a_14, .ref a_15, .ref a_16, .ref a_17, .ref a_18, .int i_12, .int i_13, .int i_14, .int i_15, .int i_16, .int i_17, .ref a_19, .int i_18, .ref a_20])), (a_1, .inl (cy 1, 4, .inl f_0)), (a_2, .inl (cy 1, 4, .inl f_1)), (a_3, .inl (cy 2, 240, .inr (.inl f_2)))] [.ref a_0, .int i_0, .int i_1, .long j_0] (fun u : (Nat → Int64) => [(a_0, .inr (12, [.int 0, .ref a_1, .ref a_2, .ref a_3, .ref a_4, .ref a_5, .int i_3, .int i_4, .int i_5, .int i_6, .int i_7, .long j_1, .int i_8, .int i_9, .int i_10, .int i_11, .ref a_6, .ref a_7, .ref a_8, .ref a_9, .ref a_10, .ref a_11, .ref a_12, .ref a_13, .ref a_14, .ref a_15, .ref a_16, .ref a_17, .ref a_18, .int i_12, .int i_13, .int i_14, .int i_15, .int i_16, .int i_17, .ref a_19, .int i_18, .ref a_20])), (a_1, .inl (cy 1, 4, .inl f_0)), (a_2, .inl (cy 1, 4, .inl f_1)), (a_3, .inl (cy 2, 240, .inr (.inl u)))]) (fun (r : Int32) (u : (Nat → Int64)) => mm_rg r (-7) 0) 0 0 := by
  refine mm_begin (lv := [(0, .ref a_0), (1, .int i_0), (2, .int i_1), (3, .long j_0)]) (by decide) (Nat.le_of_ble_eq_true rfl) rfl ?_
  intro p e s m below meth c A ls R args Q H locs hRe hQ hAe hx hb hr hlocks hml hown hnm hts hsz hA hS hP hK hD hZ hl
  have hRf : R.frames = 2 := by rw [hRe]
  have hRl : R.locals = 45 := by rw [hRe]
  have hRc : R.cells = 0 := by rw [hRe]
  have hRs : R.slots = 0 := by rw [hRe]
  refine lv_aload_n hx hb dX12_write_0 rfl (lv_at hl 0 rfl) ?_
  refine lv_iconst (v := 0) hx hb dX12_write_1 (by decide) ?_
  refine va_put (D := G) (ci := 12) (v := .int 0) (ty := tyX12 0) (C := RX12) (T := TX12) (N := 38) hx hb hts (mm_i inlX12) tyX12 tyX12_ok nmX12 hown hK.1 hP hD hS 0 rfl rfl 0 (by decide) (mm_h hts mm_w177) (fun _ h9 => h9) rfl (tyX12_ok 0 (by decide)) rfl rfl (Nat.le_of_ble_eq_true rfl) dX12_write_2 ?_
  clear hP hD hS
  clear H locs
  intro H locs (hP : va_P G vwCl [(a_0, .inr (12, [.int 0, .ref a_1, .ref a_2, .ref a_3, .ref a_4, .ref a_5, .int i_3, .int i_4, .int i_5, .int i_6, .int i_7, .long j_1, .int i_8, .int i_9, .int i_10, .int i_11, .ref a_6, .ref a_7, .ref a_8, .ref a_9, .ref a_10, .ref a_11, .ref a_12, .ref a_13, .ref a_14, .ref a_15, .ref a_16, .ref a_17, .ref a_18, .int i_12, .int i_13, .int i_14, .int i_15, .int i_16, .int i_17, .ref a_19, .int i_18, .ref a_20])), (a_1, .inl (cy 1, 4, .inl f_0)), (a_2, .inl (cy 1, 4, .inl f_1)), (a_3, .inl (cy 2, 240, .inr (.inl f_2)))] H) (hD : va_D A [(a_0, .inr (12, [.int 0, .ref a_1, .ref a_2, .ref a_3, .ref a_4, .ref a_5, .int i_3, .int i_4, .int i_5, .int i_6, .int i_7, .long j_1, .int i_8, .int i_9, .int i_10, .int i_11, .ref a_6, .ref a_7, .ref a_8, .ref a_9, .ref a_10, .ref a_11, .ref a_12, .ref a_13, .ref a_14, .ref a_15, .ref a_16, .ref a_17, .ref a_18, .int i_12, .int i_13, .int i_14, .int i_15, .int i_16, .int i_17, .ref a_19, .int i_18, .ref a_20])), (a_1, .inl (cy 1, 4, .inl f_0)), (a_2, .inl (cy 1, 4, .inl f_1)), (a_3, .inl (cy 2, 240, .inr (.inl f_2)))]) hS
  refine lv_iload_n hx hb dX12_write_5 rfl (lv_at hl 1 rfl) ?_
  refine mm_finir (va_runS (As := [.int i_0]) (rest := []) ⟨hx, hb, hml, hown, hts⟩ (M197_X12_isSlot l G cy H.size i_0 ) (va_cwS 1 hts (mm_gS mm_w1269 mm_w1270 mm_w5 mm_w1271) rfl rfl rfl hs_X12_isSlot ⟨by rw [hRf]; exact Nat.le_of_ble_eq_true rfl, by rw [hRl]; exact Nat.le_of_ble_eq_true rfl⟩) (mm_preS hK hZ hS hA hP hD [] rfl rfl) rfl rfl hl.1 rfl (lv_room (Nat.le_of_ble_eq_true rfl)) dX12_write_6 ⟨by rw [hRc]; exact Nat.le_of_ble_eq_true rfl, by rw [hRs]; exact Nat.le_of_ble_eq_true rfl⟩) hP hD hS hA [] rfl (fun _ => rfl) ?_
  clear hP hD hS
  clear H locs
  intro v1 _u H locs hw hP hD hS
  rcases hw with rfl | ⟨rfl, w2⟩
  · refine lv_if_ne (tgt := 15) hx hb dX12_write_9 (by decide) (fun c3 => ?_) (fun c3 => ?_)
    · have q4 := mm_neL (lo := 1) (mm_ne c3) mm_k0 mm_k0 (by decide) (by decide)
      exact mm_no q4 (by decide)
    · refine lv_bipush (v := (-2)) hx hb dX12_write_12 (by decide) ?_
      subst hAe
      rw [hQ]
      exact W.iret (v := (-2)) hx hb hr (fun t ht hW => ⟨⟨(-2), f_2, rfl, (mm_wk mm_km2 (by decide)), by rw [ht]; exact hP, hK.warm hW, hD⟩, hS.F ht⟩) hS.2.2 dX12_write_14
  · refine lv_if_ne (tgt := 15) hx hb dX12_write_9 (by decide) (fun c5 => ?_) (fun c5 => ?_)
    · refine lv_aload_n hx hb dX12_write_15 rfl (lv_at hl 0 rfl) ?_
      refine va_get (D := G) (ci := 12) (v := .ref a_1) (C := RX12) (T := TX12) (N := 38) hx hb hts (mm_i inlX12) hown hK.1 hP 0 rfl rfl 1 (by decide) (mm_h hts mm_w142) (fun _ h9 => h9) rfl dX12_write_16 ?_
      refine lv_iload_n hx hb dX12_write_19 rfl (lv_at hl 1 rfl) ?_
      refine va_iald hx hb hK.1 hP 1 1 rfl rfl (mm_in w2 (by decide)) dX12_write_20 ?_
      refine lv_topi (fun v6 ev6 => ?_)
      have rv6 : mm_rg v6 (-1) 3 := mm_eqv ev6 (h0 _)
      refine lv_iconst (v := (-1)) hx hb dX12_write_21 (by decide) ?_
      refine lv_icmp_ne (tgt := 28) hx hb dX12_write_22 (by decide) (fun c7 => ?_) (fun c7 => ?_)
      · have q8 := mm_neL (lo := 0) (mm_ne c7) rv6 mm_km1 (by decide) (by decide)
        refine lv_iload_n hx hb dX12_write_28 rfl (lv_at hl 2 rfl) ?_
        obtain ⟨v9, ev9⟩ : ∃ y : Int64, y = i_1.toInt64 := ⟨_, rfl⟩
        refine lv_i2l hx hb dX12_write_29 ev9.symm ?_
        have rv9 : mm_rl v9 (-2147483648) 2147483647 := mm_i2l ev9 (mm_top i_1)
        refine lv_lconst (v := 0) hx hb dX12_write_30 (by decide) ?_
        refine lv_aload_n hx hb dX12_write_31 rfl (lv_at hl 0 rfl) ?_
        refine va_get (D := G) (ci := 12) (v := .ref a_2) (C := RX12) (T := TX12) (N := 38) hx hb hts (mm_i inlX12) hown hK.1 hP 0 rfl rfl 2 (by decide) (mm_h hts mm_w143) (fun _ h9 => h9) rfl dX12_write_32 ?_
        refine lv_iload_n hx hb dX12_write_35 rfl (lv_at hl 1 rfl) ?_
        refine va_iald hx hb hK.1 hP 2 1 rfl rfl (mm_in w2 (by decide)) dX12_write_36 ?_
        refine lv_topi (fun v10 ev10 => ?_)
        have rv10 : mm_rg v10 0 60 := mm_eqv ev10 (h1 _)
        refine lv_iconst (v := 1) hx hb dX12_write_37 (by decide) ?_
        refine lv_isub hx hb dX12_write_38 ?_
        refine lv_topi (fun v11 ev11 => ?_)
        have rv11 : mm_rg v11 (-1) 59 := mm_sub ev11 rv10 mm_k1 (by decide) (by decide)
        have tv11 := mm_subEc ev11 rv10 mm_k1 (by decide) (k := (-1)) (by decide)
        obtain ⟨v12, ev12⟩ : ∃ y : Int64, y = v11.toInt64 := ⟨_, rfl⟩
        refine lv_i2l hx hb dX12_write_39 ev12.symm ?_
        have rv12 : mm_rl v12 (-1) 59 := mm_i2l ev12 rv11
        refine mm_finir (va_runS (As := [.long v9, .long 0, .long v12]) (rest := []) ⟨hx, hb, hml, hown, hts⟩ (M7_X12_in l G cy H.size v9 v12 ) (va_cwS 3 hts (mm_gS mm_w191 mm_w192 mm_w5 mm_w193) rfl rfl rfl hs_X12_in ⟨by rw [hRf]; exact Nat.le_of_ble_eq_true rfl, by rw [hRl]; exact Nat.le_of_ble_eq_true rfl⟩) (mm_preS hK hZ hS hA hP hD [] rfl rfl) rfl rfl hl.1 rfl (lv_room (Nat.le_of_ble_eq_true rfl)) dX12_write_40 ⟨by rw [hRc]; exact Nat.le_of_ble_eq_true rfl, by rw [hRs]; exact Nat.le_of_ble_eq_true rfl⟩) hP hD hS hA [] rfl (fun _ => rfl) ?_
        clear hP hD hS
        clear H locs
        intro v13 _u H locs hw hP hD hS
        rcases hw with ⟨rfl, w14⟩ | ⟨rfl, w15, w16, w17, w18⟩
        · refine lv_if_ne (tgt := 49) hx hb dX12_write_43 (by decide) (fun c19 => ?_) (fun c19 => ?_)
          · have q20 := mm_neL (lo := 1) (mm_ne c19) mm_k0 mm_k0 (by decide) (by decide)
            exact mm_no q20 (by decide)
          · refine lv_bipush (v := (-7)) hx hb dX12_write_46 (by decide) ?_
            subst hAe
            rw [hQ]
            exact W.iret (v := (-7)) hx hb hr (fun t ht hW => ⟨⟨(-7), f_2, rfl, (mm_wk mm_km7 (by decide)), by rw [ht]; exact hP, hK.warm hW, hD⟩, hS.F ht⟩) hS.2.2 dX12_write_48
        · have q21 := mm_meetl (lo := 0) (hi := 2147483647) w15 rv9 (by decide)
          have q22 := mm_meet (lo := 0) (hi := 2147483647) (mm_l2x ev9 q21) (mm_top i_1) (by decide)
          have q23 := mm_meetl (lo := 0) (hi := 59) w16 rv12 (by decide)
          have q24 := mm_meet (lo := 0) (hi := 59) (mm_l2x ev12 q23) rv11 (by decide)
          have q25 := mm_leLl w17 q21 q23
          have q26 := mm_meet (lo := 0) (hi := 59) (mm_l2x ev9 q25) q22 (by decide)
          have w27 : (i_1 : Int32).toInt ≤ (v11 : Int32).toInt := by have := (mm_i2lE ev9); have := (mm_i2lE ev12); have := w17; omega
          have q28 : mm_rg v10 1 60 := mm_unadd tv11 q24 rv10 (by decide) (by decide)
          refine lv_if_ne (tgt := 49) hx hb dX12_write_43 (by decide) (fun c29 => ?_) (fun c29 => ?_)
          · refine lv_aload_n hx hb dX12_write_49 rfl (lv_at hl 0 rfl) ?_
            refine va_get (D := G) (ci := 12) (v := .ref a_3) (C := RX12) (T := TX12) (N := 38) hx hb hts (mm_i inlX12) hown hK.1 hP 0 rfl rfl 3 (by decide) (mm_h hts mm_w144) (fun _ h9 => h9) rfl dX12_write_50 ?_
            refine lv_bipush (v := 60) hx hb dX12_write_53 (by decide) ?_
            refine lv_iload_n hx hb dX12_write_55 rfl (lv_at hl 1 rfl) ?_
            refine lv_imul hx hb dX12_write_56 ?_
            refine lv_topi (fun v30 ev30 => ?_)
            have rv30 : mm_rg v30 0 180 := mm_mul ev30 mm_k60 w2 (by decide) (by decide)
            have tv30 := mm_mulEc ev30 mm_k60 w2 (by decide) (k := 60) (by decide)
            refine lv_iload_n hx hb dX12_write_57 rfl (lv_at hl 2 rfl) ?_
            refine lv_iadd hx hb dX12_write_58 ?_
            refine lv_topi (fun v31 ev31 => ?_)
            have rv31 : mm_rg v31 0 239 := mm_add ev31 rv30 q26 (by decide) (by decide)
            have tv31 := mm_addE ev31 rv30 q26 (by decide)
            refine lv_lload_n hx hb dX12_write_59 rfl (lv_at hl 3 rfl) ?_
            refine lv_aload_n hx hb dX12_write_60 rfl (lv_at hl 0 rfl) ?_
            refine va_get (D := G) (ci := 12) (v := .ref a_1) (C := RX12) (T := TX12) (N := 38) hx hb hts (mm_i inlX12) hown hK.1 hP 0 rfl rfl 1 (by decide) (mm_h hts mm_w142) (fun _ h9 => h9) rfl dX12_write_61 ?_
            refine lv_iload_n hx hb dX12_write_64 rfl (lv_at hl 1 rfl) ?_
            refine va_iald hx hb hK.1 hP 1 1 rfl rfl (mm_in w2 (by decide)) dX12_write_65 ?_
            refine lv_topi (fun v32 ev32 => ?_)
            have rv32 : mm_rg v32 (-1) 3 := mm_eqv ev32 (h0 _)
            obtain rfl : v6 = v32 := ev6.trans ev32.symm
            refine mm_finlr (va_runS (As := [.long j_0, .int v6]) (rest := [.int v31, .ref a_3]) ⟨hx, hb, hml, hown, hts⟩ (M380_X12_cut l G cy H.size j_0 v6 (mm_wk q8 (by decide))) (va_cwS 2 hts (mm_gS mm_w1703 mm_w1704 mm_w5 mm_w1705) rfl rfl rfl hs_X12_cut ⟨by rw [hRf]; exact Nat.le_of_ble_eq_true rfl, by rw [hRl]; exact Nat.le_of_ble_eq_true rfl⟩) (mm_preS hK hZ hS hA hP hD [] rfl rfl) rfl rfl hl.1 rfl (lv_room (Nat.le_of_ble_eq_true rfl)) dX12_write_66 ⟨by rw [hRc]; exact Nat.le_of_ble_eq_true rfl, by rw [hRs]; exact Nat.le_of_ble_eq_true rfl⟩) hP hD hS hA [] rfl (fun _ => rfl) ?_
            clear hP hD hS
            clear H locs
            intro v33 _u H locs hw hP hD hS
            refine va_last hx hb hK.1 hP hD hS 3 2 rfl rfl (mm_in rv31 (by decide)) dX12_write_69 ?_
            clear hP hD hS
            clear H locs
            obtain ⟨g34, eg34⟩ : ∃ z : Nat → Int64, z = vp_updL f_2 v31.toNatClampNeg v33 := ⟨_, rfl⟩
            rw [← eg34]
            intro H locs (hP : va_P G vwCl [(a_0, .inr (12, [.int 0, .ref a_1, .ref a_2, .ref a_3, .ref a_4, .ref a_5, .int i_3, .int i_4, .int i_5, .int i_6, .int i_7, .long j_1, .int i_8, .int i_9, .int i_10, .int i_11, .ref a_6, .ref a_7, .ref a_8, .ref a_9, .ref a_10, .ref a_11, .ref a_12, .ref a_13, .ref a_14, .ref a_15, .ref a_16, .ref a_17, .ref a_18, .int i_12, .int i_13, .int i_14, .int i_15, .int i_16, .int i_17, .ref a_19, .int i_18, .ref a_20])), (a_1, .inl (cy 1, 4, .inl f_0)), (a_2, .inl (cy 1, 4, .inl f_1)), (a_3, .inl (cy 2, 240, .inr (.inl g34)))] H) (hD : va_D A [(a_0, .inr (12, [.int 0, .ref a_1, .ref a_2, .ref a_3, .ref a_4, .ref a_5, .int i_3, .int i_4, .int i_5, .int i_6, .int i_7, .long j_1, .int i_8, .int i_9, .int i_10, .int i_11, .ref a_6, .ref a_7, .ref a_8, .ref a_9, .ref a_10, .ref a_11, .ref a_12, .ref a_13, .ref a_14, .ref a_15, .ref a_16, .ref a_17, .ref a_18, .int i_12, .int i_13, .int i_14, .int i_15, .int i_16, .int i_17, .ref a_19, .int i_18, .ref a_20])), (a_1, .inl (cy 1, 4, .inl f_0)), (a_2, .inl (cy 1, 4, .inl f_1)), (a_3, .inl (cy 2, 240, .inr (.inl g34)))]) hS
            refine lv_iconst (v := 0) hx hb dX12_write_70 (by decide) ?_
            subst hAe
            rw [hQ]
            exact W.iret (v := 0) hx hb hr (fun t ht hW => ⟨⟨0, g34, rfl, (mm_wk mm_k0 (by decide)), by rw [ht]; exact hP, hK.warm hW, hD⟩, hS.F ht⟩) hS.2.2 dX12_write_71
          · exact mm_eqN c29.symm mm_k0 mm_k1 (by decide)
      · have q35 := mm_eqI (lo := (-1)) (hi := (-1)) c7 rv6 mm_km1 (by decide)
        refine lv_bipush (v := (-6)) hx hb dX12_write_25 (by decide) ?_
        subst hAe
        rw [hQ]
        exact W.iret (v := (-6)) hx hb hr (fun t ht hW => ⟨⟨(-6), f_2, rfl, (mm_wk mm_km6 (by decide)), by rw [ht]; exact hP, hK.warm hW, hD⟩, hS.F ht⟩) hS.2.2 dX12_write_27
    · exact mm_eqN c5.symm mm_k0 mm_k1 (by decide)

set_option maxHeartbeats 4000000 in
set_option maxRecDepth 100000 in
theorem M382_X12_paste (l : Launch) (G : va_G) (cy : Nat → ClassId) (sz : Nat) (a_0 : Nat) (i_0 : Int32) (i_1 : Int32) (i_2 : Int32) (i_3 : Int32) (i_4 : Int32) (i_5 : Int32) (a_1 : Nat) (a_2 : Nat) (a_3 : Nat) (a_4 : Nat) (a_5 : Nat) (i_6 : Int32) (i_7 : Int32) (i_8 : Int32) (i_9 : Int32) (i_10 : Int32) (j_0 : Int64) (i_11 : Int32) (i_12 : Int32) (i_13 : Int32) (i_14 : Int32) (a_6 : Nat) (a_7 : Nat) (a_8 : Nat) (a_9 : Nat) (a_10 : Nat) (a_11 : Nat) (a_12 : Nat) (a_13 : Nat) (a_14 : Nat) (a_15 : Nat) (a_16 : Nat) (a_17 : Nat) (a_18 : Nat) (i_15 : Int32) (i_16 : Int32) (i_17 : Int32) (i_18 : Int32) (i_19 : Int32) (i_20 : Int32) (a_19 : Nat) (i_21 : Int32) (a_20 : Nat) (f_0 : Nat → Int32) (f_1 : Nat → Int32) (f_2 : Nat → Int64) (f_3 : Nat → Int64) (h0 : mm_ar f_0 (-1) 3) (h1 : mm_ar f_1 0 60)  : mm_CI l yX12_paste (mm_ws yX12_paste cX12_paste 7 (some .int)) ({ frames := 2, cells := 0, slots := 0, locals := 45 } : Room) G cy sz [(a_0, .inr (12, [.int i_5, .ref a_1, .ref a_2, .ref a_3, .ref a_4, .ref a_5, .int i_6, .int i_7, .int i_8, .int i_9, .int i_10, .long j_0, .int i_11, .int i_12, .int i_13, .int i_14, .ref a_6, .ref a_7, .ref a_8, .ref a_9, .ref a_10, .ref a_11, .ref a_12, .ref a_13, .ref a_14, .ref a_15, .ref a_16, .ref a_17, .ref a_18, .int i_15, .int i_16, .int i_17, .int i_18, .int i_19, .int i_20, .ref a_19, .int i_21, .ref a_20])), (a_1, .inl (cy 1, 4, .inl f_0)), (a_2, .inl (cy 1, 4, .inl f_1)), (a_3, .inl (cy 2, 240, .inr (.inl f_2))), (a_4, .inl (cy 2, 60, .inr (.inl f_3)))] [.ref a_0, .int i_0, .int i_1, .int i_2, .int i_3, .int i_4] (fun u : (Nat → Int64) × (Nat → Int64) => [(a_0, .inr (12, [.int 0, .ref a_1, .ref a_2, .ref a_3, .ref a_4, .ref a_5, .int i_6, .int i_7, .int i_8, .int i_9, .int i_10, .long j_0, .int i_11, .int i_12, .int i_13, .int i_14, .ref a_6, .ref a_7, .ref a_8, .ref a_9, .ref a_10, .ref a_11, .ref a_12, .ref a_13, .ref a_14, .ref a_15, .ref a_16, .ref a_17, .ref a_18, .int i_15, .int i_16, .int i_17, .int i_18, .int i_19, .int i_20, .ref a_19, .int i_21, .ref a_20])), (a_1, .inl (cy 1, 4, .inl f_0)), (a_2, .inl (cy 1, 4, .inl f_1)), (a_3, .inl (cy 2, 240, .inr (.inl u.1))), (a_4, .inl (cy 2, 60, .inr (.inl u.2)))]) (fun (r : Int32) (u : (Nat → Int64) × (Nat → Int64)) => mm_rg r (-8) 0) 0 0 := by
  refine mm_begin (lv := [(0, .ref a_0), (1, .int i_0), (2, .int i_1), (3, .int i_2), (4, .int i_3), (5, .int i_4)]) (by decide) (Nat.le_of_ble_eq_true rfl) rfl ?_
  intro p e s m below meth c A ls R args Q H locs hRe hQ hAe hx hb hr hlocks hml hown hnm hts hsz hA hS hP hK hD hZ hl
  have hRf : R.frames = 2 := by rw [hRe]
  have hRl : R.locals = 45 := by rw [hRe]
  have hRc : R.cells = 0 := by rw [hRe]
  have hRs : R.slots = 0 := by rw [hRe]
  refine lv_aload_n hx hb dX12_paste_0 rfl (lv_at hl 0 rfl) ?_
  refine lv_iconst (v := 0) hx hb dX12_paste_1 (by decide) ?_
  refine va_put (D := G) (ci := 12) (v := .int 0) (ty := tyX12 0) (C := RX12) (T := TX12) (N := 38) hx hb hts (mm_i inlX12) tyX12 tyX12_ok nmX12 hown hK.1 hP hD hS 0 rfl rfl 0 (by decide) (mm_h hts mm_w177) (fun _ h9 => h9) rfl (tyX12_ok 0 (by decide)) rfl rfl (Nat.le_of_ble_eq_true rfl) dX12_paste_2 ?_
  clear hP hD hS
  clear H locs
  intro H locs (hP : va_P G vwCl [(a_0, .inr (12, [.int 0, .ref a_1, .ref a_2, .ref a_3, .ref a_4, .ref a_5, .int i_6, .int i_7, .int i_8, .int i_9, .int i_10, .long j_0, .int i_11, .int i_12, .int i_13, .int i_14, .ref a_6, .ref a_7, .ref a_8, .ref a_9, .ref a_10, .ref a_11, .ref a_12, .ref a_13, .ref a_14, .ref a_15, .ref a_16, .ref a_17, .ref a_18, .int i_15, .int i_16, .int i_17, .int i_18, .int i_19, .int i_20, .ref a_19, .int i_21, .ref a_20])), (a_1, .inl (cy 1, 4, .inl f_0)), (a_2, .inl (cy 1, 4, .inl f_1)), (a_3, .inl (cy 2, 240, .inr (.inl f_2))), (a_4, .inl (cy 2, 60, .inr (.inl f_3)))] H) (hD : va_D A [(a_0, .inr (12, [.int 0, .ref a_1, .ref a_2, .ref a_3, .ref a_4, .ref a_5, .int i_6, .int i_7, .int i_8, .int i_9, .int i_10, .long j_0, .int i_11, .int i_12, .int i_13, .int i_14, .ref a_6, .ref a_7, .ref a_8, .ref a_9, .ref a_10, .ref a_11, .ref a_12, .ref a_13, .ref a_14, .ref a_15, .ref a_16, .ref a_17, .ref a_18, .int i_15, .int i_16, .int i_17, .int i_18, .int i_19, .int i_20, .ref a_19, .int i_21, .ref a_20])), (a_1, .inl (cy 1, 4, .inl f_0)), (a_2, .inl (cy 1, 4, .inl f_1)), (a_3, .inl (cy 2, 240, .inr (.inl f_2))), (a_4, .inl (cy 2, 60, .inr (.inl f_3)))]) hS
  refine lv_iload_n hx hb dX12_paste_5 rfl (lv_at hl 1 rfl) ?_
  refine mm_finir (va_runS (As := [.int i_0]) (rest := []) ⟨hx, hb, hml, hown, hts⟩ (M197_X12_isSlot l G cy H.size i_0 ) (va_cwS 1 hts (mm_gS mm_w1269 mm_w1270 mm_w5 mm_w1271) rfl rfl rfl hs_X12_isSlot ⟨by rw [hRf]; exact Nat.le_of_ble_eq_true rfl, by rw [hRl]; exact Nat.le_of_ble_eq_true rfl⟩) (mm_preS hK hZ hS hA hP hD [] rfl rfl) rfl rfl hl.1 rfl (lv_room (Nat.le_of_ble_eq_true rfl)) dX12_paste_6 ⟨by rw [hRc]; exact Nat.le_of_ble_eq_true rfl, by rw [hRs]; exact Nat.le_of_ble_eq_true rfl⟩) hP hD hS hA [] rfl (fun _ => rfl) ?_
  clear hP hD hS
  clear H locs
  intro v1 _u H locs hw hP hD hS
  rcases hw with rfl | ⟨rfl, w2⟩
  · refine lv_if_eq (tgt := 19) hx hb dX12_paste_9 (by decide) (fun c3 => ?_) (fun c3 => ?_)
    · refine lv_bipush (v := (-2)) hx hb dX12_paste_19 (by decide) ?_
      subst hAe
      rw [hQ]
      exact W.iret (v := (-2)) hx hb hr (fun t ht hW => ⟨⟨(-2), (f_2, f_3), rfl, (mm_wk mm_km2 (by decide)), by rw [ht]; exact hP, hK.warm hW, hD⟩, hS.F ht⟩) hS.2.2 dX12_paste_21
    · have q4 := mm_neL (lo := 1) (mm_ne c3) mm_k0 mm_k0 (by decide) (by decide)
      exact mm_no q4 (by decide)
  · refine lv_if_eq (tgt := 19) hx hb dX12_paste_9 (by decide) (fun c5 => ?_) (fun c5 => ?_)
    · exact mm_eqN c5.symm mm_k0 mm_k1 (by decide)
    · refine lv_iload_n hx hb dX12_paste_12 rfl (lv_at hl 3 rfl) ?_
      refine mm_finir (va_runS (As := [.int i_2]) (rest := []) ⟨hx, hb, hml, hown, hts⟩ (M197_X12_isSlot l G cy H.size i_2 ) (va_cwS 1 hts (mm_gS mm_w1269 mm_w1270 mm_w5 mm_w1271) rfl rfl rfl hs_X12_isSlot ⟨by rw [hRf]; exact Nat.le_of_ble_eq_true rfl, by rw [hRl]; exact Nat.le_of_ble_eq_true rfl⟩) (mm_preS hK hZ hS hA hP hD [] rfl rfl) rfl rfl hl.1 rfl (lv_room (Nat.le_of_ble_eq_true rfl)) dX12_paste_13 ⟨by rw [hRc]; exact Nat.le_of_ble_eq_true rfl, by rw [hRs]; exact Nat.le_of_ble_eq_true rfl⟩) hP hD hS hA [] rfl (fun _ => rfl) ?_
      clear hP hD hS
      clear H locs
      intro v6 _u H locs hw hP hD hS
      rcases hw with rfl | ⟨rfl, w7⟩
      · refine lv_if_ne (tgt := 22) hx hb dX12_paste_16 (by decide) (fun c8 => ?_) (fun c8 => ?_)
        · have q9 := mm_neL (lo := 1) (mm_ne c8) mm_k0 mm_k0 (by decide) (by decide)
          exact mm_no q9 (by decide)
        · refine lv_bipush (v := (-2)) hx hb dX12_paste_19 (by decide) ?_
          subst hAe
          rw [hQ]
          exact W.iret (v := (-2)) hx hb hr (fun t ht hW => ⟨⟨(-2), (f_2, f_3), rfl, (mm_wk mm_km2 (by decide)), by rw [ht]; exact hP, hK.warm hW, hD⟩, hS.F ht⟩) hS.2.2 dX12_paste_21
      · refine lv_if_ne (tgt := 22) hx hb dX12_paste_16 (by decide) (fun c10 => ?_) (fun c10 => ?_)
        · refine lv_aload_n hx hb dX12_paste_22 rfl (lv_at hl 0 rfl) ?_
          refine va_get (D := G) (ci := 12) (v := .ref a_1) (C := RX12) (T := TX12) (N := 38) hx hb hts (mm_i inlX12) hown hK.1 hP 0 rfl rfl 1 (by decide) (mm_h hts mm_w142) (fun _ h9 => h9) rfl dX12_paste_23 ?_
          refine lv_iload_n hx hb dX12_paste_26 rfl (lv_at hl 1 rfl) ?_
          refine va_iald hx hb hK.1 hP 1 1 rfl rfl (mm_in w2 (by decide)) dX12_paste_27 ?_
          refine lv_topi (fun v11 ev11 => ?_)
          have rv11 : mm_rg v11 (-1) 3 := mm_eqv ev11 (h0 _)
          refine lv_iconst (v := (-1)) hx hb dX12_paste_28 (by decide) ?_
          refine lv_icmp_eq (tgt := 42) hx hb dX12_paste_29 (by decide) (fun c12 => ?_) (fun c12 => ?_)
          · have q13 := mm_eqI (lo := (-1)) (hi := (-1)) c12 rv11 mm_km1 (by decide)
            refine lv_bipush (v := (-6)) hx hb dX12_paste_42 (by decide) ?_
            subst hAe
            rw [hQ]
            exact W.iret (v := (-6)) hx hb hr (fun t ht hW => ⟨⟨(-6), (f_2, f_3), rfl, (mm_wk mm_km6 (by decide)), by rw [ht]; exact hP, hK.warm hW, hD⟩, hS.F ht⟩) hS.2.2 dX12_paste_44
          · have q14 := mm_neL (lo := 0) (mm_ne c12) rv11 mm_km1 (by decide) (by decide)
            refine lv_aload_n hx hb dX12_paste_32 rfl (lv_at hl 0 rfl) ?_
            refine va_get (D := G) (ci := 12) (v := .ref a_1) (C := RX12) (T := TX12) (N := 38) hx hb hts (mm_i inlX12) hown hK.1 hP 0 rfl rfl 1 (by decide) (mm_h hts mm_w142) (fun _ h9 => h9) rfl dX12_paste_33 ?_
            refine lv_iload_n hx hb dX12_paste_36 rfl (lv_at hl 3 rfl) ?_
            refine va_iald hx hb hK.1 hP 1 1 rfl rfl (mm_in w7 (by decide)) dX12_paste_37 ?_
            refine lv_topi (fun v15 ev15 => ?_)
            have rv15 : mm_rg v15 (-1) 3 := mm_eqv ev15 (h0 _)
            refine lv_iconst (v := (-1)) hx hb dX12_paste_38 (by decide) ?_
            refine lv_icmp_ne (tgt := 45) hx hb dX12_paste_39 (by decide) (fun c16 => ?_) (fun c16 => ?_)
            · have q17 := mm_neL (lo := 0) (mm_ne c16) rv15 mm_km1 (by decide) (by decide)
              refine lv_aload_n hx hb dX12_paste_45 rfl (lv_at hl 0 rfl) ?_
              refine va_get (D := G) (ci := 12) (v := .ref a_1) (C := RX12) (T := TX12) (N := 38) hx hb hts (mm_i inlX12) hown hK.1 hP 0 rfl rfl 1 (by decide) (mm_h hts mm_w142) (fun _ h9 => h9) rfl dX12_paste_46 ?_
              refine lv_iload_n hx hb dX12_paste_49 rfl (lv_at hl 1 rfl) ?_
              refine va_iald hx hb hK.1 hP 1 1 rfl rfl (mm_in w2 (by decide)) dX12_paste_50 ?_
              refine lv_topi (fun v18 ev18 => ?_)
              have rv18 : mm_rg v18 (-1) 3 := mm_eqv ev18 (h0 _)
              obtain rfl : v11 = v18 := ev11.trans ev18.symm
              refine lv_aload_n hx hb dX12_paste_51 rfl (lv_at hl 0 rfl) ?_
              refine va_get (D := G) (ci := 12) (v := .ref a_1) (C := RX12) (T := TX12) (N := 38) hx hb hts (mm_i inlX12) hown hK.1 hP 0 rfl rfl 1 (by decide) (mm_h hts mm_w142) (fun _ h9 => h9) rfl dX12_paste_52 ?_
              refine lv_iload_n hx hb dX12_paste_55 rfl (lv_at hl 3 rfl) ?_
              refine va_iald hx hb hK.1 hP 1 1 rfl rfl (mm_in w7 (by decide)) dX12_paste_56 ?_
              refine lv_topi (fun v19 ev19 => ?_)
              have rv19 : mm_rg v19 (-1) 3 := mm_eqv ev19 (h0 _)
              obtain rfl : v15 = v19 := ev15.trans ev19.symm
              refine lv_icmp_eq (tgt := 63) hx hb dX12_paste_57 (by decide) (fun c20 => ?_) (fun c20 => ?_)
              · refine lv_iload_n hx hb dX12_paste_63 rfl (lv_at hl 2 rfl) ?_
                refine lv_if_lt (tgt := 112) hx hb dX12_paste_64 (by decide) (fun c21 => ?_) (fun c21 => ?_)
                · have q22 := mm_ltL (h := (-1)) (mm_lt c21) (mm_top i_1) mm_k0 (by decide)
                  refine lv_bipush (v := (-7)) hx hb dX12_paste_112 (by decide) ?_
                  subst hAe
                  rw [hQ]
                  exact W.iret (v := (-7)) hx hb hr (fun t ht hW => ⟨⟨(-7), (f_2, f_3), rfl, (mm_wk mm_km7 (by decide)), by rw [ht]; exact hP, hK.warm hW, hD⟩, hS.F ht⟩) hS.2.2 dX12_paste_114
                · have q23 := mm_leR (mm_nlt c21) mm_k0 (mm_top i_1)
                  refine lv_iload hx hb dX12_paste_67 (lv_at hl 4 rfl) ?_
                  refine lv_if_lt (tgt := 112) hx hb dX12_paste_69 (by decide) (fun c24 => ?_) (fun c24 => ?_)
                  · have q25 := mm_ltL (h := (-1)) (mm_lt c24) (mm_top i_3) mm_k0 (by decide)
                    refine lv_bipush (v := (-7)) hx hb dX12_paste_112 (by decide) ?_
                    subst hAe
                    rw [hQ]
                    exact W.iret (v := (-7)) hx hb hr (fun t ht hW => ⟨⟨(-7), (f_2, f_3), rfl, (mm_wk mm_km7 (by decide)), by rw [ht]; exact hP, hK.warm hW, hD⟩, hS.F ht⟩) hS.2.2 dX12_paste_114
                  · have q26 := mm_leR (mm_nlt c24) mm_k0 (mm_top i_3)
                    refine lv_iload hx hb dX12_paste_72 (lv_at hl 5 rfl) ?_
                    refine lv_if_lt (tgt := 112) hx hb dX12_paste_74 (by decide) (fun c27 => ?_) (fun c27 => ?_)
                    · have q28 := mm_ltL (h := (-1)) (mm_lt c27) (mm_top i_4) mm_k0 (by decide)
                      refine lv_bipush (v := (-7)) hx hb dX12_paste_112 (by decide) ?_
                      subst hAe
                      rw [hQ]
                      exact W.iret (v := (-7)) hx hb hr (fun t ht hW => ⟨⟨(-7), (f_2, f_3), rfl, (mm_wk mm_km7 (by decide)), by rw [ht]; exact hP, hK.warm hW, hD⟩, hS.F ht⟩) hS.2.2 dX12_paste_114
                    · have q29 := mm_leR (mm_nlt c27) mm_k0 (mm_top i_4)
                      refine lv_iload_n hx hb dX12_paste_77 rfl (lv_at hl 2 rfl) ?_
                      obtain ⟨v30, ev30⟩ : ∃ y : Int64, y = i_1.toInt64 := ⟨_, rfl⟩
                      refine lv_i2l hx hb dX12_paste_78 ev30.symm ?_
                      have rv30 : mm_rl v30 0 2147483647 := mm_i2l ev30 q23
                      refine lv_iload hx hb dX12_paste_79 (lv_at hl 5 rfl) ?_
                      obtain ⟨v31, ev31⟩ : ∃ y : Int64, y = i_4.toInt64 := ⟨_, rfl⟩
                      refine lv_i2l hx hb dX12_paste_81 ev31.symm ?_
                      have rv31 : mm_rl v31 0 2147483647 := mm_i2l ev31 q29
                      refine lv_ladd hx hb dX12_paste_82 ?_
                      refine lv_topl (fun v32 ev32 => ?_)
                      have rv32 : mm_rl v32 0 4294967294 := mm_addl ev32 rv30 rv31 (by decide) (by decide)
                      have tv32 := mm_addlE ev32 rv30 rv31 (by decide)
                      refine lv_aload_n hx hb dX12_paste_83 rfl (lv_at hl 0 rfl) ?_
                      refine va_get (D := G) (ci := 12) (v := .ref a_2) (C := RX12) (T := TX12) (N := 38) hx hb hts (mm_i inlX12) hown hK.1 hP 0 rfl rfl 2 (by decide) (mm_h hts mm_w143) (fun _ h9 => h9) rfl dX12_paste_84 ?_
                      refine lv_iload_n hx hb dX12_paste_87 rfl (lv_at hl 1 rfl) ?_
                      refine va_iald hx hb hK.1 hP 2 1 rfl rfl (mm_in w2 (by decide)) dX12_paste_88 ?_
                      refine lv_topi (fun v33 ev33 => ?_)
                      have rv33 : mm_rg v33 0 60 := mm_eqv ev33 (h1 _)
                      obtain ⟨v34, ev34⟩ : ∃ y : Int64, y = v33.toInt64 := ⟨_, rfl⟩
                      refine lv_i2l hx hb dX12_paste_89 ev34.symm ?_
                      have rv34 : mm_rl v34 0 60 := mm_i2l ev34 rv33
                      refine W.lcmp hx hb dX12_paste_90 ?_
                      refine lv_topi (fun v35 ev35 => ?_)
                      refine lv_if_gt (tgt := 112) hx hb dX12_paste_91 (by decide) (fun c36 => ?_) (fun c36 => ?_)
                      · have q37 := mm_ltRl (lo := 1) (mm_cmp_gt ev35 c36) rv34 rv32 (by decide)
                        refine lv_bipush (v := (-7)) hx hb dX12_paste_112 (by decide) ?_
                        subst hAe
                        rw [hQ]
                        exact W.iret (v := (-7)) hx hb hr (fun t ht hW => ⟨⟨(-7), (f_2, f_3), rfl, (mm_wk mm_km7 (by decide)), by rw [ht]; exact hP, hK.warm hW, hD⟩, hS.F ht⟩) hS.2.2 dX12_paste_114
                      · have q38 := mm_leLl (mm_cmp_le ev35 (mm_n_gt c36)) rv32 rv34
                        have w39 : mm_sm i_1 i_4 v33 := mm_sm_of (mm_i2lE ev30) (mm_i2lE ev31) (mm_i2lE ev34) tv32 (mm_cmp_le ev35 (mm_n_gt c36))
                        have q40 : mm_rg i_1 0 60 := mm_sm_1 w39 q23 q29 rv33 (by decide)
                        have q41 : mm_rg i_4 0 60 := mm_sm_2 w39 q29 q23 rv33 (by decide)
                        refine lv_iload hx hb dX12_paste_94 (lv_at hl 4 rfl) ?_
                        obtain ⟨v42, ev42⟩ : ∃ y : Int64, y = i_3.toInt64 := ⟨_, rfl⟩
                        refine lv_i2l hx hb dX12_paste_96 ev42.symm ?_
                        have rv42 : mm_rl v42 0 2147483647 := mm_i2l ev42 q26
                        refine lv_iload hx hb dX12_paste_97 (lv_at hl 5 rfl) ?_
                        obtain ⟨v43, ev43⟩ : ∃ y : Int64, y = i_4.toInt64 := ⟨_, rfl⟩
                        refine lv_i2l hx hb dX12_paste_99 ev43.symm ?_
                        have rv43 : mm_rl v43 0 60 := mm_i2l ev43 q41
                        refine lv_ladd hx hb dX12_paste_100 ?_
                        refine lv_topl (fun v44 ev44 => ?_)
                        have rv44 : mm_rl v44 0 2147483707 := mm_addl ev44 rv42 rv43 (by decide) (by decide)
                        have tv44 := mm_addlE ev44 rv42 rv43 (by decide)
                        refine lv_aload_n hx hb dX12_paste_101 rfl (lv_at hl 0 rfl) ?_
                        refine va_get (D := G) (ci := 12) (v := .ref a_2) (C := RX12) (T := TX12) (N := 38) hx hb hts (mm_i inlX12) hown hK.1 hP 0 rfl rfl 2 (by decide) (mm_h hts mm_w143) (fun _ h9 => h9) rfl dX12_paste_102 ?_
                        refine lv_iload_n hx hb dX12_paste_105 rfl (lv_at hl 3 rfl) ?_
                        refine va_iald hx hb hK.1 hP 2 1 rfl rfl (mm_in w7 (by decide)) dX12_paste_106 ?_
                        refine lv_topi (fun v45 ev45 => ?_)
                        have rv45 : mm_rg v45 0 60 := mm_eqv ev45 (h1 _)
                        obtain ⟨v46, ev46⟩ : ∃ y : Int64, y = v45.toInt64 := ⟨_, rfl⟩
                        refine lv_i2l hx hb dX12_paste_107 ev46.symm ?_
                        have rv46 : mm_rl v46 0 60 := mm_i2l ev46 rv45
                        refine W.lcmp hx hb dX12_paste_108 ?_
                        refine lv_topi (fun v47 ev47 => ?_)
                        refine lv_if_le (tgt := 115) hx hb dX12_paste_109 (by decide) (fun c48 => ?_) (fun c48 => ?_)
                        · have q49 := mm_leLl (mm_cmp_le ev47 c48) rv44 rv46
                          have w50 : mm_sm i_3 i_4 v45 := mm_sm_of (mm_i2lE ev42) (mm_i2lE ev43) (mm_i2lE ev46) tv44 (mm_cmp_le ev47 c48)
                          have q51 : mm_rg i_3 0 60 := mm_sm_1 w50 q26 q41 rv45 (by decide)
                          refine lv_iconst (v := 0) hx hb dX12_paste_115 (by decide) ?_
                          refine lv_istore (lv' := [(6, .int 0), (0, .ref a_0), (1, .int i_0), (2, .int i_1), (3, .int i_2), (4, .int i_3), (5, .int i_4)]) hx hb dX12_paste_116 hl (by decide) rfl ?_
                          clear hl
                          clear ls
                          intro ls hl
                          have L118_178 : ∀ (n : Nat) (x118_6_177 : Int32) (z118_4_178 : Nat → Int64), mm_rg x118_6_177 0 60 → (60 - x118_6_177.toInt).toNat < n → ∀ (H : Heap) (locs : List Loc), va_P G vwCl [(a_0, .inr (12, [.int 0, .ref a_1, .ref a_2, .ref a_3, .ref a_4, .ref a_5, .int i_6, .int i_7, .int i_8, .int i_9, .int i_10, .long j_0, .int i_11, .int i_12, .int i_13, .int i_14, .ref a_6, .ref a_7, .ref a_8, .ref a_9, .ref a_10, .ref a_11, .ref a_12, .ref a_13, .ref a_14, .ref a_15, .ref a_16, .ref a_17, .ref a_18, .int i_15, .int i_16, .int i_17, .int i_18, .int i_19, .int i_20, .ref a_19, .int i_21, .ref a_20])), (a_1, .inl (cy 1, 4, .inl f_0)), (a_2, .inl (cy 1, 4, .inl f_1)), (a_3, .inl (cy 2, 240, .inr (.inl f_2))), (a_4, .inl (cy 2, 60, .inr (.inl z118_4_178)))] H → va_D A [(a_0, .inr (12, [.int 0, .ref a_1, .ref a_2, .ref a_3, .ref a_4, .ref a_5, .int i_6, .int i_7, .int i_8, .int i_9, .int i_10, .long j_0, .int i_11, .int i_12, .int i_13, .int i_14, .ref a_6, .ref a_7, .ref a_8, .ref a_9, .ref a_10, .ref a_11, .ref a_12, .ref a_13, .ref a_14, .ref a_15, .ref a_16, .ref a_17, .ref a_18, .int i_15, .int i_16, .int i_17, .int i_18, .int i_19, .int i_20, .ref a_19, .int i_21, .ref a_20])), (a_1, .inl (cy 1, 4, .inl f_0)), (a_2, .inl (cy 1, 4, .inl f_1)), (a_3, .inl (cy 2, 240, .inr (.inl f_2))), (a_4, .inl (cy 2, 60, .inr (.inl z118_4_178)))] → va_S A s.heap H locs → ∀ (ls : Array Slot), lv_has ls 7 [(6, .int x118_6_177), (0, .ref a_0), (1, .int i_0), (2, .int i_1), (3, .int i_2), (4, .int i_3), (5, .int i_4)] → W p l e R s m args below meth c H locs 0 0 Q (F0 m 118 ls []) := by
                            intro n
                            induction n with
                            | zero => intro x118_6_177 z118_4_178 rx118_6_177 hm; exact absurd hm (Nat.not_lt_zero _)
                            | succ n ih118 =>
                              intro x118_6_177 z118_4_178 rx118_6_177 hm118 H locs hP hD hS ls hl
                              refine lv_iload hx hb dX12_paste_118 (lv_at hl 0 rfl) ?_
                              refine lv_iload hx hb dX12_paste_120 (lv_at hl 6 rfl) ?_
                              refine lv_icmp_ge (tgt := 152) hx hb dX12_paste_122 (by decide) (fun c180 => ?_) (fun c180 => ?_)
                              · refine lv_iconst (v := 0) hx hb dX12_paste_152 (by decide) ?_
                                refine lv_istore (lv' := [(6, .int 0), (0, .ref a_0), (1, .int i_0), (2, .int i_1), (3, .int i_2), (4, .int i_3), (5, .int i_4)]) hx hb dX12_paste_153 hl (by decide) rfl ?_
                                clear hl
                                clear ls
                                intro ls hl
                                have L155_321 : ∀ (n : Nat) (x155_6_320 : Int32) (z155_3_321 : Nat → Int64), mm_rg x155_6_320 0 60 → (60 - x155_6_320.toInt).toNat < n → ∀ (H : Heap) (locs : List Loc), va_P G vwCl [(a_0, .inr (12, [.int 0, .ref a_1, .ref a_2, .ref a_3, .ref a_4, .ref a_5, .int i_6, .int i_7, .int i_8, .int i_9, .int i_10, .long j_0, .int i_11, .int i_12, .int i_13, .int i_14, .ref a_6, .ref a_7, .ref a_8, .ref a_9, .ref a_10, .ref a_11, .ref a_12, .ref a_13, .ref a_14, .ref a_15, .ref a_16, .ref a_17, .ref a_18, .int i_15, .int i_16, .int i_17, .int i_18, .int i_19, .int i_20, .ref a_19, .int i_21, .ref a_20])), (a_1, .inl (cy 1, 4, .inl f_0)), (a_2, .inl (cy 1, 4, .inl f_1)), (a_3, .inl (cy 2, 240, .inr (.inl z155_3_321))), (a_4, .inl (cy 2, 60, .inr (.inl z118_4_178)))] H → va_D A [(a_0, .inr (12, [.int 0, .ref a_1, .ref a_2, .ref a_3, .ref a_4, .ref a_5, .int i_6, .int i_7, .int i_8, .int i_9, .int i_10, .long j_0, .int i_11, .int i_12, .int i_13, .int i_14, .ref a_6, .ref a_7, .ref a_8, .ref a_9, .ref a_10, .ref a_11, .ref a_12, .ref a_13, .ref a_14, .ref a_15, .ref a_16, .ref a_17, .ref a_18, .int i_15, .int i_16, .int i_17, .int i_18, .int i_19, .int i_20, .ref a_19, .int i_21, .ref a_20])), (a_1, .inl (cy 1, 4, .inl f_0)), (a_2, .inl (cy 1, 4, .inl f_1)), (a_3, .inl (cy 2, 240, .inr (.inl z155_3_321))), (a_4, .inl (cy 2, 60, .inr (.inl z118_4_178)))] → va_S A s.heap H locs → ∀ (ls : Array Slot), lv_has ls 7 [(6, .int x155_6_320), (0, .ref a_0), (1, .int i_0), (2, .int i_1), (3, .int i_2), (4, .int i_3), (5, .int i_4)] → W p l e R s m args below meth c H locs 0 0 Q (F0 m 155 ls []) := by
                                  intro n
                                  induction n with
                                  | zero => intro x155_6_320 z155_3_321 rx155_6_320 hm; exact absurd hm (Nat.not_lt_zero _)
                                  | succ n ih155 =>
                                    intro x155_6_320 z155_3_321 rx155_6_320 hm155 H locs hP hD hS ls hl
                                    refine lv_iload hx hb dX12_paste_155 (lv_at hl 0 rfl) ?_
                                    refine lv_iload hx hb dX12_paste_157 (lv_at hl 6 rfl) ?_
                                    refine lv_icmp_ge (tgt := 190) hx hb dX12_paste_159 (by decide) (fun c323 => ?_) (fun c323 => ?_)
                                    · refine lv_iconst (v := 0) hx hb dX12_paste_190 (by decide) ?_
                                      subst hAe
                                      rw [hQ]
                                      exact W.iret (v := 0) hx hb hr (fun t ht hW => ⟨⟨0, (z155_3_321, z118_4_178), rfl, (mm_wk mm_k0 (by decide)), by rw [ht]; exact hP, hK.warm hW, hD⟩, hS.F ht⟩) hS.2.2 dX12_paste_191
                                    · have q324 := mm_ltL (h := 59) (mm_nle c323) rx155_6_320 q41 (by decide)
                                      have q325 := mm_ltR (lo := 1) (mm_nle c323) rx155_6_320 q41 (by decide)
                                      have q326 := mm_leR (mm_le c180) q325 rx118_6_177
                                      refine lv_aload_n hx hb dX12_paste_162 rfl (lv_at hl 1 rfl) ?_
                                      refine va_get (D := G) (ci := 12) (v := .ref a_3) (C := RX12) (T := TX12) (N := 38) hx hb hts (mm_i inlX12) hown hK.1 hP 0 rfl rfl 3 (by decide) (mm_h hts mm_w144) (fun _ h9 => h9) rfl dX12_paste_163 ?_
                                      refine lv_bipush (v := 60) hx hb dX12_paste_166 (by decide) ?_
                                      refine lv_iload_n hx hb dX12_paste_168 rfl (lv_at hl 4 rfl) ?_
                                      refine lv_imul hx hb dX12_paste_169 ?_
                                      refine lv_topi (fun v327 ev327 => ?_)
                                      have rv327 : mm_rg v327 0 180 := mm_mul ev327 mm_k60 w7 (by decide) (by decide)
                                      have tv327 := mm_mulEc ev327 mm_k60 w7 (by decide) (k := 60) (by decide)
                                      refine lv_iload hx hb dX12_paste_170 (lv_at hl 5 rfl) ?_
                                      refine lv_iadd hx hb dX12_paste_172 ?_
                                      refine lv_topi (fun v328 ev328 => ?_)
                                      have rv328 : mm_rg v328 0 240 := mm_add ev328 rv327 q51 (by decide) (by decide)
                                      have tv328 := mm_addE ev328 rv327 q51 (by decide)
                                      refine lv_iload hx hb dX12_paste_173 (lv_at hl 0 rfl) ?_
                                      refine lv_iadd hx hb dX12_paste_175 ?_
                                      refine lv_topi (fun v329 ev329 => ?_)
                                      have rv329 : mm_rg v329 0 299 := mm_add ev329 rv328 q324 (by decide) (by decide)
                                      have tv329 := mm_addE ev329 rv328 q324 (by decide)
                                      refine lv_aload_n hx hb dX12_paste_176 rfl (lv_at hl 1 rfl) ?_
                                      refine va_get (D := G) (ci := 12) (v := .ref a_4) (C := RX12) (T := TX12) (N := 38) hx hb hts (mm_i inlX12) hown hK.1 hP 0 rfl rfl 4 (by decide) (mm_h hts mm_w145) (fun _ h9 => h9) rfl dX12_paste_177 ?_
                                      refine lv_iload hx hb dX12_paste_180 (lv_at hl 0 rfl) ?_
                                      refine va_lald hx hb hK.1 hP 4 2 rfl rfl (mm_in q324 (by decide)) dX12_paste_182 ?_
                                      refine lv_topl (fun v330 ev330 => ?_)
                                      have q331 : mm_rg v329 0 239 := mm_sm_in w50 (mm_nle c323) (by have := tv329; have := tv328; have := tv327; omega) w7 q51 q324 rv45 (by decide)
                                      refine va_last hx hb hK.1 hP hD hS 3 2 rfl rfl (mm_in q331 (by decide)) dX12_paste_183 ?_
                                      clear hP hD hS
                                      clear H locs
                                      obtain ⟨g332, eg332⟩ : ∃ z : Nat → Int64, z = vp_updL z155_3_321 v329.toNatClampNeg v330 := ⟨_, rfl⟩
                                      rw [← eg332]
                                      intro H locs (hP : va_P G vwCl [(a_0, .inr (12, [.int 0, .ref a_1, .ref a_2, .ref a_3, .ref a_4, .ref a_5, .int i_6, .int i_7, .int i_8, .int i_9, .int i_10, .long j_0, .int i_11, .int i_12, .int i_13, .int i_14, .ref a_6, .ref a_7, .ref a_8, .ref a_9, .ref a_10, .ref a_11, .ref a_12, .ref a_13, .ref a_14, .ref a_15, .ref a_16, .ref a_17, .ref a_18, .int i_15, .int i_16, .int i_17, .int i_18, .int i_19, .int i_20, .ref a_19, .int i_21, .ref a_20])), (a_1, .inl (cy 1, 4, .inl f_0)), (a_2, .inl (cy 1, 4, .inl f_1)), (a_3, .inl (cy 2, 240, .inr (.inl g332))), (a_4, .inl (cy 2, 60, .inr (.inl z118_4_178)))] H) (hD : va_D A [(a_0, .inr (12, [.int 0, .ref a_1, .ref a_2, .ref a_3, .ref a_4, .ref a_5, .int i_6, .int i_7, .int i_8, .int i_9, .int i_10, .long j_0, .int i_11, .int i_12, .int i_13, .int i_14, .ref a_6, .ref a_7, .ref a_8, .ref a_9, .ref a_10, .ref a_11, .ref a_12, .ref a_13, .ref a_14, .ref a_15, .ref a_16, .ref a_17, .ref a_18, .int i_15, .int i_16, .int i_17, .int i_18, .int i_19, .int i_20, .ref a_19, .int i_21, .ref a_20])), (a_1, .inl (cy 1, 4, .inl f_0)), (a_2, .inl (cy 1, 4, .inl f_1)), (a_3, .inl (cy 2, 240, .inr (.inl g332))), (a_4, .inl (cy 2, 60, .inr (.inl z118_4_178)))]) hS
                                      obtain ⟨v333, ev333⟩ : ∃ y : Int32, y = x155_6_320 + 1 := ⟨_, rfl⟩
                                      refine lv_iinc (v := v333) (lv' := [(6, .int v333), (0, .ref a_0), (1, .int i_0), (2, .int i_1), (3, .int i_2), (4, .int i_3), (5, .int i_4)]) hx hb dX12_paste_184 hl (k := 0) rfl (by rw [ev333]; rfl) (by decide) rfl ?_
                                      clear hl
                                      clear ls
                                      intro ls hl
                                      have rv333 : mm_rg v333 1 60 := mm_add ev333 q324 mm_k1 (by decide) (by decide)
                                      have tv333 := mm_addEc ev333 q324 mm_k1 (by decide) (k := 1) (by decide)
                                      refine lv_goto (tgt := 155) hx hb dX12_paste_187 (by decide) ?_
                                      exact ih155 v333 g332 (mm_wk rv333 (by decide)) (mm_mu hm155 tv333 (by decide) (rv333).2 (by decide)) H locs hP hD hS ls (lv_sub hl [0, 1, 2, 3, 4, 5, 6] rfl)
                                exact L155_321 _ 0 f_2 (mm_wk mm_k0 (by decide)) (Nat.lt_succ_self _) H locs hP hD hS ls (lv_sub hl [0, 1, 2, 3, 4, 5, 6] rfl)
                              · have q334 := mm_ltL (h := 59) (mm_nle c180) rx118_6_177 q41 (by decide)
                                have q335 := mm_ltR (lo := 1) (mm_nle c180) rx118_6_177 q41 (by decide)
                                refine lv_aload_n hx hb dX12_paste_125 rfl (lv_at hl 1 rfl) ?_
                                refine va_get (D := G) (ci := 12) (v := .ref a_4) (C := RX12) (T := TX12) (N := 38) hx hb hts (mm_i inlX12) hown hK.1 hP 0 rfl rfl 4 (by decide) (mm_h hts mm_w145) (fun _ h9 => h9) rfl dX12_paste_126 ?_
                                refine lv_iload hx hb dX12_paste_129 (lv_at hl 0 rfl) ?_
                                refine lv_aload_n hx hb dX12_paste_131 rfl (lv_at hl 1 rfl) ?_
                                refine va_get (D := G) (ci := 12) (v := .ref a_3) (C := RX12) (T := TX12) (N := 38) hx hb hts (mm_i inlX12) hown hK.1 hP 0 rfl rfl 3 (by decide) (mm_h hts mm_w144) (fun _ h9 => h9) rfl dX12_paste_132 ?_
                                refine lv_bipush (v := 60) hx hb dX12_paste_135 (by decide) ?_
                                refine lv_iload_n hx hb dX12_paste_137 rfl (lv_at hl 2 rfl) ?_
                                refine lv_imul hx hb dX12_paste_138 ?_
                                refine lv_topi (fun v336 ev336 => ?_)
                                have rv336 : mm_rg v336 0 180 := mm_mul ev336 mm_k60 w2 (by decide) (by decide)
                                have tv336 := mm_mulEc ev336 mm_k60 w2 (by decide) (k := 60) (by decide)
                                refine lv_iload_n hx hb dX12_paste_139 rfl (lv_at hl 3 rfl) ?_
                                refine lv_iadd hx hb dX12_paste_140 ?_
                                refine lv_topi (fun v337 ev337 => ?_)
                                have rv337 : mm_rg v337 0 240 := mm_add ev337 rv336 q40 (by decide) (by decide)
                                have tv337 := mm_addE ev337 rv336 q40 (by decide)
                                refine lv_iload hx hb dX12_paste_141 (lv_at hl 0 rfl) ?_
                                refine lv_iadd hx hb dX12_paste_143 ?_
                                refine lv_topi (fun v338 ev338 => ?_)
                                have rv338 : mm_rg v338 0 299 := mm_add ev338 rv337 q334 (by decide) (by decide)
                                have tv338 := mm_addE ev338 rv337 q334 (by decide)
                                have q339 : mm_rg v338 0 239 := mm_sm_in w39 (mm_nle c180) (by have := tv338; have := tv337; have := tv336; omega) w2 q40 q334 rv33 (by decide)
                                refine va_lald hx hb hK.1 hP 3 2 rfl rfl (mm_in q339 (by decide)) dX12_paste_144 ?_
                                refine lv_topl (fun v340 ev340 => ?_)
                                refine va_last hx hb hK.1 hP hD hS 4 2 rfl rfl (mm_in q334 (by decide)) dX12_paste_145 ?_
                                clear hP hD hS
                                clear H locs
                                obtain ⟨g341, eg341⟩ : ∃ z : Nat → Int64, z = vp_updL z118_4_178 x118_6_177.toNatClampNeg v340 := ⟨_, rfl⟩
                                rw [← eg341]
                                intro H locs (hP : va_P G vwCl [(a_0, .inr (12, [.int 0, .ref a_1, .ref a_2, .ref a_3, .ref a_4, .ref a_5, .int i_6, .int i_7, .int i_8, .int i_9, .int i_10, .long j_0, .int i_11, .int i_12, .int i_13, .int i_14, .ref a_6, .ref a_7, .ref a_8, .ref a_9, .ref a_10, .ref a_11, .ref a_12, .ref a_13, .ref a_14, .ref a_15, .ref a_16, .ref a_17, .ref a_18, .int i_15, .int i_16, .int i_17, .int i_18, .int i_19, .int i_20, .ref a_19, .int i_21, .ref a_20])), (a_1, .inl (cy 1, 4, .inl f_0)), (a_2, .inl (cy 1, 4, .inl f_1)), (a_3, .inl (cy 2, 240, .inr (.inl f_2))), (a_4, .inl (cy 2, 60, .inr (.inl g341)))] H) (hD : va_D A [(a_0, .inr (12, [.int 0, .ref a_1, .ref a_2, .ref a_3, .ref a_4, .ref a_5, .int i_6, .int i_7, .int i_8, .int i_9, .int i_10, .long j_0, .int i_11, .int i_12, .int i_13, .int i_14, .ref a_6, .ref a_7, .ref a_8, .ref a_9, .ref a_10, .ref a_11, .ref a_12, .ref a_13, .ref a_14, .ref a_15, .ref a_16, .ref a_17, .ref a_18, .int i_15, .int i_16, .int i_17, .int i_18, .int i_19, .int i_20, .ref a_19, .int i_21, .ref a_20])), (a_1, .inl (cy 1, 4, .inl f_0)), (a_2, .inl (cy 1, 4, .inl f_1)), (a_3, .inl (cy 2, 240, .inr (.inl f_2))), (a_4, .inl (cy 2, 60, .inr (.inl g341)))]) hS
                                obtain ⟨v342, ev342⟩ : ∃ y : Int32, y = x118_6_177 + 1 := ⟨_, rfl⟩
                                refine lv_iinc (v := v342) (lv' := [(6, .int v342), (0, .ref a_0), (1, .int i_0), (2, .int i_1), (3, .int i_2), (4, .int i_3), (5, .int i_4)]) hx hb dX12_paste_146 hl (k := 0) rfl (by rw [ev342]; rfl) (by decide) rfl ?_
                                clear hl
                                clear ls
                                intro ls hl
                                have rv342 : mm_rg v342 1 60 := mm_add ev342 q334 mm_k1 (by decide) (by decide)
                                have tv342 := mm_addEc ev342 q334 mm_k1 (by decide) (k := 1) (by decide)
                                refine lv_goto (tgt := 118) hx hb dX12_paste_149 (by decide) ?_
                                exact ih118 v342 g341 (mm_wk rv342 (by decide)) (mm_mu hm118 tv342 (by decide) (rv342).2 (by decide)) H locs hP hD hS ls (lv_sub hl [0, 1, 2, 3, 4, 5, 6] rfl)
                          exact L118_178 _ 0 f_3 (mm_wk mm_k0 (by decide)) (Nat.lt_succ_self _) H locs hP hD hS ls (lv_sub hl [0, 1, 2, 3, 4, 5, 6] rfl)
                        · have q343 := mm_ltRl (lo := 1) (mm_cmp_gt ev47 (mm_n_le c48)) rv46 rv44 (by decide)
                          refine lv_bipush (v := (-7)) hx hb dX12_paste_112 (by decide) ?_
                          subst hAe
                          rw [hQ]
                          exact W.iret (v := (-7)) hx hb hr (fun t ht hW => ⟨⟨(-7), (f_2, f_3), rfl, (mm_wk mm_km7 (by decide)), by rw [ht]; exact hP, hK.warm hW, hD⟩, hS.F ht⟩) hS.2.2 dX12_paste_114
              · refine lv_bipush (v := (-8)) hx hb dX12_paste_60 (by decide) ?_
                subst hAe
                rw [hQ]
                exact W.iret (v := (-8)) hx hb hr (fun t ht hW => ⟨⟨(-8), (f_2, f_3), rfl, (mm_wk mm_km8 (by decide)), by rw [ht]; exact hP, hK.warm hW, hD⟩, hS.F ht⟩) hS.2.2 dX12_paste_62
            · have q344 := mm_eqI (lo := (-1)) (hi := (-1)) c16 rv15 mm_km1 (by decide)
              refine lv_bipush (v := (-6)) hx hb dX12_paste_42 (by decide) ?_
              subst hAe
              rw [hQ]
              exact W.iret (v := (-6)) hx hb hr (fun t ht hW => ⟨⟨(-6), (f_2, f_3), rfl, (mm_wk mm_km6 (by decide)), by rw [ht]; exact hP, hK.warm hW, hD⟩, hS.F ht⟩) hS.2.2 dX12_paste_44
        · exact mm_eqN c10.symm mm_k0 mm_k1 (by decide)

