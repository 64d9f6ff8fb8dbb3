theorem dX12_count_0 : decode cX12_count 0 = .ok (.aload_n 0, 1) := by decide +kernel
theorem dX12_count_1 : decode cX12_count 1 = .ok (.iconst 0, 1) := by decide +kernel
theorem dX12_count_2 : decode cX12_count 2 = .ok (.putfield 77, 3) := by decide +kernel
theorem dX12_count_5 : decode cX12_count 5 = .ok (.iconst 0, 1) := by decide +kernel
theorem dX12_count_6 : decode cX12_count 6 = .ok (.istore_n 2, 1) := by decide +kernel
theorem dX12_count_7 : decode cX12_count 7 = .ok (.iload_n 1, 1) := by decide +kernel
theorem dX12_count_8 : decode cX12_count 8 = .ok (.tableswitch 168 0 9 #[56, 63, 70, 75, 82, 111, 116, 123, 130, 135], 56) := by decide +kernel
theorem dX12_count_64 : decode cX12_count 64 = .ok (.aload_n 0, 1) := by decide +kernel
theorem dX12_count_65 : decode cX12_count 65 = .ok (.getfield 34, 3) := by decide +kernel
theorem dX12_count_68 : decode cX12_count 68 = .ok (.iconst 0, 1) := by decide +kernel
theorem dX12_count_69 : decode cX12_count 69 = .ok (.iaload, 1) := by decide +kernel
theorem dX12_count_70 : decode cX12_count 70 = .ok (.ireturn, 1) := by decide +kernel
theorem dX12_count_71 : decode cX12_count 71 = .ok (.aload_n 0, 1) := by decide +kernel
theorem dX12_count_72 : decode cX12_count 72 = .ok (.getfield 34, 3) := by decide +kernel
theorem dX12_count_75 : decode cX12_count 75 = .ok (.iconst 1, 1) := by decide +kernel
theorem dX12_count_76 : decode cX12_count 76 = .ok (.iaload, 1) := by decide +kernel
theorem dX12_count_77 : decode cX12_count 77 = .ok (.ireturn, 1) := by decide +kernel
theorem dX12_count_78 : decode cX12_count 78 = .ok (.aload_n 0, 1) := by decide +kernel
theorem dX12_count_79 : decode cX12_count 79 = .ok (.invokevirtual 254, 3) := by decide +kernel
theorem dX12_count_82 : decode cX12_count 82 = .ok (.ireturn, 1) := by decide +kernel
theorem dX12_count_83 : decode cX12_count 83 = .ok (.aload_n 0, 1) := by decide +kernel
theorem dX12_count_84 : decode cX12_count 84 = .ok (.getfield 34, 3) := by decide +kernel
theorem dX12_count_87 : decode cX12_count 87 = .ok (.iconst 3, 1) := by decide +kernel
theorem dX12_count_88 : decode cX12_count 88 = .ok (.iaload, 1) := by decide +kernel
theorem dX12_count_89 : decode cX12_count 89 = .ok (.ireturn, 1) := by decide +kernel
theorem dX12_count_90 : decode cX12_count 90 = .ok (.iconst 0, 1) := by decide +kernel
theorem dX12_count_91 : decode cX12_count 91 = .ok (.istore_n 3, 1) := by decide +kernel
theorem dX12_count_92 : decode cX12_count 92 = .ok (.iload_n 3, 1) := by decide +kernel
theorem dX12_count_93 : decode cX12_count 93 = .ok (.aload_n 0, 1) := by decide +kernel
theorem dX12_count_94 : decode cX12_count 94 = .ok (.getfield 34, 3) := by decide +kernel
theorem dX12_count_97 : decode cX12_count 97 = .ok (.iconst 3, 1) := by decide +kernel
theorem dX12_count_98 : decode cX12_count 98 = .ok (.iaload, 1) := by decide +kernel
theorem dX12_count_99 : decode cX12_count 99 = .ok (.if_icmp .ge 18, 3) := by decide +kernel
theorem dX12_count_102 : decode cX12_count 102 = .ok (.iload_n 2, 1) := by decide +kernel
theorem dX12_count_103 : decode cX12_count 103 = .ok (.aload_n 0, 1) := by decide +kernel
theorem dX12_count_104 : decode cX12_count 104 = .ok (.getfield 40, 3) := by decide +kernel
theorem dX12_count_107 : decode cX12_count 107 = .ok (.iload_n 3, 1) := by decide +kernel
theorem dX12_count_108 : decode cX12_count 108 = .ok (.iaload, 1) := by decide +kernel
theorem dX12_count_109 : decode cX12_count 109 = .ok (.iadd, 1) := by decide +kernel
theorem dX12_count_110 : decode cX12_count 110 = .ok (.istore_n 2, 1) := by decide +kernel
theorem dX12_count_111 : decode cX12_count 111 = .ok (.iinc 3 1, 3) := by decide +kernel
theorem dX12_count_114 : decode cX12_count 114 = .ok (.goto (-22), 3) := by decide +kernel
theorem dX12_count_117 : decode cX12_count 117 = .ok (.iload_n 2, 1) := by decide +kernel
theorem dX12_count_118 : decode cX12_count 118 = .ok (.ireturn, 1) := by decide +kernel
theorem dX12_count_119 : decode cX12_count 119 = .ok (.aload_n 0, 1) := by decide +kernel
theorem dX12_count_120 : decode cX12_count 120 = .ok (.invokevirtual 260, 3) := by decide +kernel
theorem dX12_count_123 : decode cX12_count 123 = .ok (.ireturn, 1) := by decide +kernel
theorem dX12_count_124 : decode cX12_count 124 = .ok (.aload_n 0, 1) := by decide +kernel
theorem dX12_count_125 : decode cX12_count 125 = .ok (.getfield 34, 3) := by decide +kernel
theorem dX12_count_128 : decode cX12_count 128 = .ok (.iconst 5, 1) := by decide +kernel
theorem dX12_count_129 : decode cX12_count 129 = .ok (.iaload, 1) := by decide +kernel
theorem dX12_count_130 : decode cX12_count 130 = .ok (.ireturn, 1) := by decide +kernel
theorem dX12_count_131 : decode cX12_count 131 = .ok (.aload_n 0, 1) := by decide +kernel
theorem dX12_count_132 : decode cX12_count 132 = .ok (.getfield 31, 3) := by decide +kernel
theorem dX12_count_135 : decode cX12_count 135 = .ok (.iconst 0, 1) := by decide +kernel
theorem dX12_count_136 : decode cX12_count 136 = .ok (.iaload, 1) := by decide +kernel
theorem dX12_count_137 : decode cX12_count 137 = .ok (.ireturn, 1) := by decide +kernel
theorem dX12_count_138 : decode cX12_count 138 = .ok (.aload_n 0, 1) := by decide +kernel
theorem dX12_count_139 : decode cX12_count 139 = .ok (.getfield 94, 3) := by decide +kernel
theorem dX12_count_142 : decode cX12_count 142 = .ok (.ireturn, 1) := by decide +kernel
theorem dX12_count_143 : decode cX12_count 143 = .ok (.iconst 0, 1) := by decide +kernel
theorem dX12_count_144 : decode cX12_count 144 = .ok (.istore_n 3, 1) := by decide +kernel
theorem dX12_count_145 : decode cX12_count 145 = .ok (.iload_n 3, 1) := by decide +kernel
theorem dX12_count_146 : decode cX12_count 146 = .ok (.iconst 4, 1) := by decide +kernel
theorem dX12_count_147 : decode cX12_count 147 = .ok (.if_icmp .ge 27, 3) := by decide +kernel
theorem dX12_count_150 : decode cX12_count 150 = .ok (.iload_n 2, 1) := by decide +kernel
theorem dX12_count_151 : decode cX12_count 151 = .ok (.aload_n 0, 1) := by decide +kernel
theorem dX12_count_152 : decode cX12_count 152 = .ok (.getfield 7, 3) := by decide +kernel
theorem dX12_count_155 : decode cX12_count 155 = .ok (.iload_n 3, 1) := by decide +kernel
theorem dX12_count_156 : decode cX12_count 156 = .ok (.iaload, 1) := by decide +kernel
theorem dX12_count_157 : decode cX12_count 157 = .ok (.iconst (-1), 1) := by decide +kernel
theorem dX12_count_158 : decode cX12_count 158 = .ok (.if_icmp .ne 7, 3) := by decide +kernel
theorem dX12_count_161 : decode cX12_count 161 = .ok (.iconst 0, 1) := by decide +kernel
theorem dX12_count_162 : decode cX12_count 162 = .ok (.goto 4, 3) := by decide +kernel
theorem dX12_count_165 : decode cX12_count 165 = .ok (.iconst 1, 1) := by decide +kernel
theorem dX12_count_166 : decode cX12_count 166 = .ok (.iadd, 1) := by decide +kernel
theorem dX12_count_167 : decode cX12_count 167 = .ok (.istore_n 2, 1) := by decide +kernel
theorem dX12_count_168 : decode cX12_count 168 = .ok (.iinc 3 1, 3) := by decide +kernel
theorem dX12_count_171 : decode cX12_count 171 = .ok (.goto (-26), 3) := by decide +kernel
theorem dX12_count_174 : decode cX12_count 174 = .ok (.iload_n 2, 1) := by decide +kernel
theorem dX12_count_175 : decode cX12_count 175 = .ok (.ireturn, 1) := by decide +kernel
theorem dX12_count_176 : decode cX12_count 176 = .ok (.iconst (-1), 1) := by decide +kernel
theorem dX12_count_177 : decode cX12_count 177 = .ok (.ireturn, 1) := by decide +kernel
theorem dX12_drawn_0 : decode cX12_drawn 0 = .ok (.aload_n 0, 1) := by decide +kernel
theorem dX12_drawn_1 : decode cX12_drawn 1 = .ok (.iconst 0, 1) := by decide +kernel
theorem dX12_drawn_2 : decode cX12_drawn 2 = .ok (.putfield 77, 3) := by decide +kernel
theorem dX12_drawn_5 : decode cX12_drawn 5 = .ok (.aload_n 0, 1) := by decide +kernel
theorem dX12_drawn_6 : decode cX12_drawn 6 = .ok (.invokevirtual 251, 3) := by decide +kernel
theorem dX12_drawn_9 : decode cX12_drawn 9 = .ok (.ifCond .eq 32, 3) := by decide +kernel
theorem dX12_drawn_12 : decode cX12_drawn 12 = .ok (.iload_n 1, 1) := by decide +kernel
theorem dX12_drawn_13 : decode cX12_drawn 13 = .ok (.invokestatic 454, 3) := by decide +kernel
theorem dX12_drawn_16 : decode cX12_drawn 16 = .ok (.ifCond .eq 25, 3) := by decide +kernel
theorem dX12_drawn_19 : decode cX12_drawn 19 = .ok (.iload_n 2, 1) := by decide +kernel
theorem dX12_drawn_20 : decode cX12_drawn 20 = .ok (.i2l, 1) := by decide +kernel
theorem dX12_drawn_21 : decode cX12_drawn 21 = .ok (.lconst 0, 1) := by decide +kernel
theorem dX12_drawn_22 : decode cX12_drawn 22 = .ok (.ldc2_w 410, 3) := by decide +kernel
theorem dX12_drawn_25 : decode cX12_drawn 25 = .ok (.invokestatic 82, 3) := by decide +kernel
theorem dX12_drawn_28 : decode cX12_drawn 28 = .ok (.ifCond .eq 13, 3) := by decide +kernel
theorem dX12_drawn_31 : decode cX12_drawn 31 = .ok (.aload_n 0, 1) := by decide +kernel
theorem dX12_drawn_32 : decode cX12_drawn 32 = .ok (.iload_n 1, 1) := by decide +kernel
theorem dX12_drawn_33 : decode cX12_drawn 33 = .ok (.i2l, 1) := by decide +kernel
theorem dX12_drawn_34 : decode cX12_drawn 34 = .ok (.iload_n 2, 1) := by decide +kernel
theorem dX12_drawn_35 : decode cX12_drawn 35 = .ok (.invokevirtual 457, 3) := by decide +kernel
theorem dX12_drawn_38 : decode cX12_drawn 38 = .ok (.goto 5, 3) := by decide +kernel
theorem dX12_drawn_41 : decode cX12_drawn 41 = .ok (.bipush (-2), 2) := by decide +kernel
theorem dX12_drawn_43 : decode cX12_drawn 43 = .ok (.ireturn, 1) := by decide +kernel
theorem dX12_luck_0 : decode cX12_luck 0 = .ok (.aload_n 0, 1) := by decide +kernel
theorem dX12_luck_1 : decode cX12_luck 1 = .ok (.iconst 0, 1) := by decide +kernel
theorem dX12_luck_2 : decode cX12_luck 2 = .ok (.putfield 77, 3) := by decide +kernel
theorem dX12_luck_5 : decode cX12_luck 5 = .ok (.iload_n 1, 1) := by decide +kernel
theorem dX12_luck_6 : decode cX12_luck 6 = .ok (.invokestatic 454, 3) := by decide +kernel
theorem dX12_luck_9 : decode cX12_luck 9 = .ok (.ifCond .eq 35, 3) := by decide +kernel
theorem dX12_luck_12 : decode cX12_luck 12 = .ok (.iload_n 2, 1) := by decide +kernel
theorem dX12_luck_13 : decode cX12_luck 13 = .ok (.i2l, 1) := by decide +kernel
theorem dX12_luck_14 : decode cX12_luck 14 = .ok (.lconst 1, 1) := by decide +kernel
theorem dX12_luck_15 : decode cX12_luck 15 = .ok (.ldc2_w 461, 3) := by decide +kernel
theorem dX12_luck_18 : decode cX12_luck 18 = .ok (.invokestatic 82, 3) := by decide +kernel
theorem dX12_luck_21 : decode cX12_luck 21 = .ok (.ifCond .eq 23, 3) := by decide +kernel
theorem dX12_luck_24 : decode cX12_luck 24 = .ok (.aload_n 0, 1) := by decide +kernel
theorem dX12_luck_25 : decode cX12_luck 25 = .ok (.iload_n 3, 1) := by decide +kernel
theorem dX12_luck_26 : decode cX12_luck 26 = .ok (.iload 4, 2) := by decide +kernel
theorem dX12_luck_28 : decode cX12_luck 28 = .ok (.invokevirtual 323, 3) := by decide +kernel
theorem dX12_luck_31 : decode cX12_luck 31 = .ok (.ifCond .eq 13, 3) := by decide +kernel
theorem dX12_luck_34 : decode cX12_luck 34 = .ok (.aload_n 0, 1) := by decide +kernel
theorem dX12_luck_35 : decode cX12_luck 35 = .ok (.iload 5, 2) := by decide +kernel
theorem dX12_luck_37 : decode cX12_luck 37 = .ok (.i2l, 1) := by decide +kernel
theorem dX12_luck_38 : decode cX12_luck 38 = .ok (.invokevirtual 317, 3) := by decide +kernel
theorem dX12_luck_41 : decode cX12_luck 41 = .ok (.ifCond .ne 6, 3) := by decide +kernel
theorem dX12_luck_44 : decode cX12_luck 44 = .ok (.bipush (-2), 2) := by decide +kernel
theorem dX12_luck_46 : decode cX12_luck 46 = .ok (.ireturn, 1) := by decide +kernel
theorem dX12_luck_47 : decode cX12_luck 47 = .ok (.aload_n 0, 1) := by decide +kernel
theorem dX12_luck_48 : decode cX12_luck 48 = .ok (.invokevirtual 326, 3) := by decide +kernel
theorem dX12_luck_51 : decode cX12_luck 51 = .ok (.iconst 0, 1) := by decide +kernel
theorem dX12_luck_52 : decode cX12_luck 52 = .ok (.istore 6, 2) := by decide +kernel
theorem dX12_luck_54 : decode cX12_luck 54 = .ok (.iconst 0, 1) := by decide +kernel
theorem dX12_luck_55 : decode cX12_luck 55 = .ok (.istore 7, 2) := by decide +kernel
theorem dX12_luck_57 : decode cX12_luck 57 = .ok (.iload 7, 2) := by decide +kernel
theorem dX12_luck_59 : decode cX12_luck 59 = .ok (.iload_n 2, 1) := by decide +kernel
theorem dX12_luck_60 : decode cX12_luck 60 = .ok (.if_icmp .ge 48, 3) := by decide +kernel
theorem dX12_luck_63 : decode cX12_luck 63 = .ok (.iload 6, 2) := by decide +kernel
theorem dX12_luck_65 : decode cX12_luck 65 = .ok (.aload_n 0, 1) := by decide +kernel
theorem dX12_luck_66 : decode cX12_luck 66 = .ok (.iload_n 3, 1) := by decide +kernel
theorem dX12_luck_67 : decode cX12_luck 67 = .ok (.iload 4, 2) := by decide +kernel
theorem dX12_luck_69 : decode cX12_luck 69 = .ok (.aload_n 0, 1) := by decide +kernel
theorem dX12_luck_70 : decode cX12_luck 70 = .ok (.iload_n 1, 1) := by decide +kernel
theorem dX12_luck_71 : decode cX12_luck 71 = .ok (.i2l, 1) := by decide +kernel
theorem dX12_luck_72 : decode cX12_luck 72 = .ok (.iload 7, 2) := by decide +kernel
theorem dX12_luck_74 : decode cX12_luck 74 = .ok (.i2l, 1) := by decide +kernel
theorem dX12_luck_75 : decode cX12_luck 75 = .ok (.ladd, 1) := by decide +kernel
theorem dX12_luck_76 : decode cX12_luck 76 = .ok (.bipush 7, 2) := by decide +kernel
theorem dX12_luck_78 : decode cX12_luck 78 = .ok (.invokevirtual 457, 3) := by decide +kernel
theorem dX12_luck_81 : decode cX12_luck 81 = .ok (.iadd, 1) := by decide +kernel
theorem dX12_luck_82 : decode cX12_luck 82 = .ok (.iload 5, 2) := by decide +kernel
theorem dX12_luck_84 : decode cX12_luck 84 = .ok (.invokevirtual 338, 3) := by decide +kernel
theorem dX12_luck_87 : decode cX12_luck 87 = .ok (.aload_n 0, 1) := by decide +kernel
theorem dX12_luck_88 : decode cX12_luck 88 = .ok (.invokevirtual 308, 3) := by decide +kernel
theorem dX12_luck_91 : decode cX12_luck 91 = .ok (.if_icmp .le 7, 3) := by decide +kernel
theorem dX12_luck_94 : decode cX12_luck 94 = .ok (.iconst 1, 1) := by decide +kernel
theorem dX12_luck_95 : decode cX12_luck 95 = .ok (.goto 4, 3) := by decide +kernel
theorem dX12_luck_98 : decode cX12_luck 98 = .ok (.iconst 0, 1) := by decide +kernel
theorem dX12_luck_99 : decode cX12_luck 99 = .ok (.iadd, 1) := by decide +kernel
theorem dX12_luck_100 : decode cX12_luck 100 = .ok (.istore 6, 2) := by decide +kernel
theorem dX12_luck_102 : decode cX12_luck 102 = .ok (.iinc 7 1, 3) := by decide +kernel
theorem dX12_luck_105 : decode cX12_luck 105 = .ok (.goto (-48), 3) := by decide +kernel
theorem dX12_luck_108 : decode cX12_luck 108 = .ok (.iload 6, 2) := by decide +kernel
theorem dX12_luck_110 : decode cX12_luck 110 = .ok (.ireturn, 1) := by decide +kernel
theorem dX12_rate_0 : decode cX12_rate 0 = .ok (.aload_n 0, 1) := by decide +kernel
theorem dX12_rate_1 : decode cX12_rate 1 = .ok (.iconst 0, 1) := by decide +kernel
theorem dX12_rate_2 : decode cX12_rate 2 = .ok (.putfield 77, 3) := by decide +kernel
theorem dX12_rate_5 : decode cX12_rate 5 = .ok (.iload_n 1, 1) := by decide +kernel
theorem dX12_rate_6 : decode cX12_rate 6 = .ok (.i2l, 1) := by decide +kernel
theorem dX12_rate_7 : decode cX12_rate 7 = .ok (.lconst 0, 1) := by decide +kernel
theorem dX12_rate_8 : decode cX12_rate 8 = .ok (.aload_n 0, 1) := by decide +kernel
theorem dX12_rate_9 : decode cX12_rate 9 = .ok (.invokevirtual 254, 3) := by decide +kernel
theorem dX12_rate_12 : decode cX12_rate 12 = .ok (.i2l, 1) := by decide +kernel
theorem dX12_rate_13 : decode cX12_rate 13 = .ok (.lconst 1, 1) := by decide +kernel
theorem dX12_rate_14 : decode cX12_rate 14 = .ok (.lsub, 1) := by decide +kernel
theorem dX12_rate_15 : decode cX12_rate 15 = .ok (.invokestatic 82, 3) := by decide +kernel
theorem dX12_rate_18 : decode cX12_rate 18 = .ok (.ifCond .eq 27, 3) := by decide +kernel
theorem dX12_rate_21 : decode cX12_rate 21 = .ok (.aload_n 0, 1) := by decide +kernel
theorem dX12_rate_22 : decode cX12_rate 22 = .ok (.getfield 37, 3) := by decide +kernel
theorem dX12_rate_25 : decode cX12_rate 25 = .ok (.iconst 2, 1) := by decide +kernel
theorem dX12_rate_26 : decode cX12_rate 26 = .ok (.iload_n 1, 1) := by decide +kernel
theorem dX12_rate_27 : decode cX12_rate 27 = .ok (.imul, 1) := by decide +kernel
theorem dX12_rate_28 : decode cX12_rate 28 = .ok (.iaload, 1) := by decide +kernel
theorem dX12_rate_29 : decode cX12_rate 29 = .ok (.iconst 1, 1) := by decide +kernel
theorem dX12_rate_30 : decode cX12_rate 30 = .ok (.if_icmp .gt 15, 3) := by decide +kernel
theorem dX12_rate_33 : decode cX12_rate 33 = .ok (.iload_n 2, 1) := by decide +kernel
theorem dX12_rate_34 : decode cX12_rate 34 = .ok (.i2l, 1) := by decide +kernel
theorem dX12_rate_35 : decode cX12_rate 35 = .ok (.lconst 0, 1) := by decide +kernel
theorem dX12_rate_36 : decode cX12_rate 36 = .ok (.ldc2_w 467, 3) := by decide +kernel
theorem dX12_rate_39 : decode cX12_rate 39 = .ok (.invokestatic 82, 3) := by decide +kernel
theorem dX12_rate_42 : decode cX12_rate 42 = .ok (.ifCond .ne 6, 3) := by decide +kernel
theorem dX12_rate_45 : decode cX12_rate 45 = .ok (.bipush (-2), 2) := by decide +kernel
theorem dX12_rate_47 : decode cX12_rate 47 = .ok (.ireturn, 1) := by decide +kernel
theorem dX12_rate_48 : decode cX12_rate 48 = .ok (.aload_n 0, 1) := by decide +kernel
theorem dX12_rate_49 : decode cX12_rate 49 = .ok (.getfield 34, 3) := by decide +kernel
theorem dX12_rate_52 : decode cX12_rate 52 = .ok (.iconst 5, 1) := by decide +kernel
theorem dX12_rate_53 : decode cX12_rate 53 = .ok (.iaload, 1) := by decide +kernel
theorem dX12_rate_54 : decode cX12_rate 54 = .ok (.ifCond .le 6, 3) := by decide +kernel
theorem dX12_rate_57 : decode cX12_rate 57 = .ok (.bipush (-5), 2) := by decide +kernel
theorem dX12_rate_59 : decode cX12_rate 59 = .ok (.ireturn, 1) := by decide +kernel
theorem dX12_rate_60 : decode cX12_rate 60 = .ok (.aload_n 0, 1) := by decide +kernel
theorem dX12_rate_61 : decode cX12_rate 61 = .ok (.getfield 37, 3) := by decide +kernel
theorem dX12_rate_64 : decode cX12_rate 64 = .ok (.iconst 2, 1) := by decide +kernel
theorem dX12_rate_65 : decode cX12_rate 65 = .ok (.iload_n 1, 1) := by decide +kernel
theorem dX12_rate_66 : decode cX12_rate 66 = .ok (.imul, 1) := by decide +kernel
theorem dX12_rate_67 : decode cX12_rate 67 = .ok (.iconst 1, 1) := by decide +kernel
theorem dX12_rate_68 : decode cX12_rate 68 = .ok (.iadd, 1) := by decide +kernel
theorem dX12_rate_69 : decode cX12_rate 69 = .ok (.iaload, 1) := by decide +kernel
theorem dX12_rate_70 : decode cX12_rate 70 = .ok (.istore_n 3, 1) := by decide +kernel
theorem dX12_rate_71 : decode cX12_rate 71 = .ok (.aload_n 0, 1) := by decide +kernel
theorem dX12_rate_72 : decode cX12_rate 72 = .ok (.getfield 37, 3) := by decide +kernel
theorem dX12_rate_75 : decode cX12_rate 75 = .ok (.iconst 2, 1) := by decide +kernel
theorem dX12_rate_76 : decode cX12_rate 76 = .ok (.iload_n 1, 1) := by decide +kernel
theorem dX12_rate_77 : decode cX12_rate 77 = .ok (.imul, 1) := by decide +kernel
theorem dX12_rate_78 : decode cX12_rate 78 = .ok (.iconst 1, 1) := by decide +kernel
theorem dX12_rate_79 : decode cX12_rate 79 = .ok (.iadd, 1) := by decide +kernel
theorem dX12_rate_80 : decode cX12_rate 80 = .ok (.iload_n 2, 1) := by decide +kernel
theorem dX12_rate_81 : decode cX12_rate 81 = .ok (.iastore, 1) := by decide +kernel
theorem dX12_rate_82 : decode cX12_rate 82 = .ok (.iload_n 3, 1) := by decide +kernel
theorem dX12_rate_83 : decode cX12_rate 83 = .ok (.ireturn, 1) := by decide +kernel
theorem mm_kl20 : mm_rl 20 20 20 := ⟨by decide, by decide⟩
theorem hd_X12_drawnOf : yX12_drawnOf.cls = RX12 ∧ yX12_drawnOf.cls ≠ "java/lang/invoke/MethodHandle" ∧ yX12_drawnOf.cls ≠ "java/lang/invoke/VarHandle" ∧ (parseMethodDescriptor yX12_drawnOf.desc).map (fun d => d.parameters.length) = some 2 := by decide +kernel
theorem hs_X12_isSeed : yX12_isSeed.cls ≠ "java/lang/invoke/MethodHandle" ∧ yX12_isSeed.cls ≠ "java/lang/invoke/VarHandle" ∧ (parseMethodDescriptor yX12_isSeed.desc).map (fun d => d.parameters.length) = some 1 := by decide +kernel
set_option maxHeartbeats 4000000 in
set_option maxRecDepth 100000 in
theorem M307_X12_drawn (l : Launch) (G : va_G) (cy : Nat → ClassId) (sz : Nat) (a_0 : Nat) (i_0 : Int32) (i_1 : Int32) (i_2 : Int32) (a_1 : Nat) (a_2 : Nat) (a_3 : Nat) (a_4 : Nat) (a_5 : Nat) (i_3 : Int32) (i_4 : Int32) (i_5 : Int32) (i_6 : Int32) (i_7 : Int32) (j_0 : Int64) (i_8 : Int32) (i_9 : Int32) (i_10 : Int32) (i_11 : Int32) (a_6 : Nat) (a_7 : Nat) (a_8 : Nat) (a_9 : Nat) (a_10 : Nat) (a_11 : Nat) (a_12 : Nat) (a_13 : Nat) (a_14 : Nat) (a_15 : Nat) (a_16 : Nat) (a_17 : Nat) (a_18 : Nat) (i_12 : Int32) (i_13 : Int32) (i_14 : Int32) (i_15 : Int32) (i_16 : Int32) (i_17 : Int32) (a_19 : Nat) (i_18 : Int32) (a_20 : Nat) (i_19 : Int32) (i_20 : Int32) (i_21 : Int32) (i_22 : Int32) (i_23 : Int32) (i_24 : Int32) (i_25 : Int32) (i_26 : Int32) (i_27 : Int32) (i_28 : Int32) (i_29 : Int32) (i_30 : Int32) (i_31 : Int32) (i_32 : Int32) (i_33 : Int32) (i_34 : Int32) (i_35 : Int32) (i_36 : Int32) (i_37 : Int32) (i_38 : Int32) (i_39 : Int32) (i_40 : Int32) (i_41 : Int32) (i_42 : Int32) (i_43 : Int32) (i_44 : Int32) (i_45 : Int32) (i_46 : Int32) (i_47 : Int32) (i_48 : Int32) (i_49 : Int32) (i_50 : Int32) (i_51 : Int32) (i_52 : Int32) (i_53 : Int32) (h0 : mm_rg i_19 0 601) (h1 : mm_rg i_20 0 601) (h2 : mm_rg i_21 0 601) (h3 : mm_rg i_22 0 601) (h4 : mm_rg i_23 0 601) (h5 : mm_rg i_24 0 10) (h6 : mm_rg i_25 0 99) (h7 : mm_rg i_26 0 9) (h8 : mm_rg i_27 0 3) (h9 : mm_rg i_28 0 6) (h10 : mm_rg i_29 0 30) (h11 : mm_rg i_30 0 10) (h12 : mm_rg i_31 0 99) (h13 : mm_rg i_32 0 9) (h14 : mm_rg i_33 0 3) (h15 : mm_rg i_34 0 6) (h16 : mm_rg i_35 0 30) (h17 : mm_rg i_36 0 10) (h18 : mm_rg i_37 0 99) (h19 : mm_rg i_38 0 9) (h20 : mm_rg i_39 0 3) (h21 : mm_rg i_40 0 6) (h22 : mm_rg i_41 0 30) (h23 : mm_rg i_42 0 10) (h24 : mm_rg i_43 0 99) (h25 : mm_rg i_44 0 9) (h26 : mm_rg i_45 0 3) (h27 : mm_rg i_46 0 6) (h28 : mm_rg i_47 0 30) (h29 : mm_rg i_48 0 10) (h30 : mm_rg i_49 0 99) (h31 : mm_rg i_50 0 9) (h32 : mm_rg i_51 0 3) (h33 : mm_rg i_52 0 6) (h34 : mm_rg i_53 0 30) (h35 : mm_tl i_19 i_27 i_28) (h36 : mm_tl i_20 i_33 i_34) (h37 : mm_tl i_21 i_39 i_40) (h38 : mm_tl i_22 i_45 i_46)  : mm_CI l yX12_drawn (mm_ws yX12_drawn cX12_drawn 3 (some .int)) ({ frames := 2, cells := 0, slots := 0, locals := 45 } : Room) G cy sz [(a_0, .inr (12, [.int i_2, .ref a_1, .ref a_2, .ref a_3, .ref a_4, .ref a_5, .int i_3, .int i_4, .int i_5, .int i_6, .int i_7, .long j_0, .int i_8, .int i_9, .int i_10, .int i_11, .ref a_6, .ref a_7, .ref a_8, .ref a_9, .ref a_10, .ref a_11, .ref a_12, .ref a_13, .ref a_14, .ref a_15, .ref a_16, .ref a_17, .ref a_18, .int i_12, .int i_13, .int i_14, .int i_15, .int i_16, .int i_17, .ref a_19, .int i_18, .ref a_20])), (a_6, .inl (cy 1, 5, .inl (mm_g [i_19, i_20, i_21, i_22, i_23]))), (a_7, .inl (cy 1, 30, .inl (mm_g [i_24, i_25, i_26, i_27, i_28, i_29, i_30, i_31, i_32, i_33, i_34, i_35, i_36, i_37, i_38, i_39, i_40, i_41, i_42, i_43, i_44, i_45, i_46, i_47, i_48, i_49, i_50, i_51, i_52, i_53])))] [.ref a_0, .int i_0, .int i_1] (fun u : Unit => [(a_0, .inr (12, [.int 0, .ref a_1, .ref a_2, .ref a_3, .ref a_4, .ref a_5, .int i_3, .int i_4, .int i_5, .int i_6, .int i_7, .long j_0, .int i_8, .int i_9, .int i_10, .int i_11, .ref a_6, .ref a_7, .ref a_8, .ref a_9, .ref a_10, .ref a_11, .ref a_12, .ref a_13, .ref a_14, .ref a_15, .ref a_16, .ref a_17, .ref a_18, .int i_12, .int i_13, .int i_14, .int i_15, .int i_16, .int i_17, .ref a_19, .int i_18, .ref a_20])), (a_6, .inl (cy 1, 5, .inl (mm_g [i_19, i_20, i_21, i_22, i_23]))), (a_7, .inl (cy 1, 30, .inl (mm_g [i_24, i_25, i_26, i_27, i_28, i_29, i_30, i_31, i_32, i_33, i_34, i_35, i_36, i_37, i_38, i_39, i_40, i_41, i_42, i_43, i_44, i_45, i_46, i_47, i_48, i_49, i_50, i_51, i_52, i_53])))]) (fun (r : Int32) (u : Unit) => mm_rg r (-2) 7) 0 0 := by
  refine mm_begin (lv := [(0, .ref a_0), (1, .int i_0), (2, .int i_1)]) (by decide) (Nat.le_of_ble_eq_true rfl) rfl ?_
  intro p e s m below meth c A ls R args Q H locs hRe hQ hAe hx hb hr hlocks hml hown hnm hts hsz hA hS hP hK hD hZ hl
  have hRf : R.frames = 2 := by rw [hRe]
  have hRl : R.locals = 45 := by rw [hRe]
  have hRc : R.cells = 0 := by rw [hRe]
  have hRs : R.slots = 0 := by rw [hRe]
  refine lv_aload_n hx hb dX12_drawn_0 rfl (lv_at hl 0 rfl) ?_
  refine lv_iconst (v := 0) hx hb dX12_drawn_1 (by decide) ?_
  refine va_put (D := G) (ci := 12) (v := .int 0) (ty := tyX12 0) (C := RX12) (T := TX12) (N := 38) hx hb hts (mm_i inlX12) tyX12 tyX12_ok nmX12 hown hK.1 hP hD hS 0 rfl rfl 0 (by decide) (mm_h hts mm_w177) (fun _ h9 => h9) rfl (tyX12_ok 0 (by decide)) rfl rfl (Nat.le_of_ble_eq_true rfl) dX12_drawn_2 ?_
  clear hP hD hS
  clear H locs
  intro H locs (hP : va_P G vwCl [(a_0, .inr (12, [.int 0, .ref a_1, .ref a_2, .ref a_3, .ref a_4, .ref a_5, .int i_3, .int i_4, .int i_5, .int i_6, .int i_7, .long j_0, .int i_8, .int i_9, .int i_10, .int i_11, .ref a_6, .ref a_7, .ref a_8, .ref a_9, .ref a_10, .ref a_11, .ref a_12, .ref a_13, .ref a_14, .ref a_15, .ref a_16, .ref a_17, .ref a_18, .int i_12, .int i_13, .int i_14, .int i_15, .int i_16, .int i_17, .ref a_19, .int i_18, .ref a_20])), (a_6, .inl (cy 1, 5, .inl (mm_g [i_19, i_20, i_21, i_22, i_23]))), (a_7, .inl (cy 1, 30, .inl (mm_g [i_24, i_25, i_26, i_27, i_28, i_29, i_30, i_31, i_32, i_33, i_34, i_35, i_36, i_37, i_38, i_39, i_40, i_41, i_42, i_43, i_44, i_45, i_46, i_47, i_48, i_49, i_50, i_51, i_52, i_53])))] H) (hD : va_D A [(a_0, .inr (12, [.int 0, .ref a_1, .ref a_2, .ref a_3, .ref a_4, .ref a_5, .int i_3, .int i_4, .int i_5, .int i_6, .int i_7, .long j_0, .int i_8, .int i_9, .int i_10, .int i_11, .ref a_6, .ref a_7, .ref a_8, .ref a_9, .ref a_10, .ref a_11, .ref a_12, .ref a_13, .ref a_14, .ref a_15, .ref a_16, .ref a_17, .ref a_18, .int i_12, .int i_13, .int i_14, .int i_15, .int i_16, .int i_17, .ref a_19, .int i_18, .ref a_20])), (a_6, .inl (cy 1, 5, .inl (mm_g [i_19, i_20, i_21, i_22, i_23]))), (a_7, .inl (cy 1, 30, .inl (mm_g [i_24, i_25, i_26, i_27, i_28, i_29, i_30, i_31, i_32, i_33, i_34, i_35, i_36, i_37, i_38, i_39, i_40, i_41, i_42, i_43, i_44, i_45, i_46, i_47, i_48, i_49, i_50, i_51, i_52, i_53])))]) hS
  refine lv_aload_n hx hb dX12_drawn_5 rfl (lv_at hl 0 rfl) ?_
  refine mm_finir (va_runV (As := []) (rest := []) ⟨hx, hb, hml, hown, hts⟩ (M120_X12_isBook l G cy H.size a_0 0 a_1 a_2 a_3 a_4 a_5 i_3 i_4 i_5 i_6 i_7 j_0 i_8 i_9 i_10 i_11 a_6 a_7 a_8 a_9 a_10 a_11 a_12 a_13 a_14 a_15 a_16 a_17 a_18 i_12 i_13 i_14 i_15 i_16 i_17 a_19 i_18 a_20 i_19 i_20 i_21 i_22 i_23 h0 h1 h2 h3 h4) (cwV 0 hts (mm_gV mm_w653 mm_w654 mm_w655 mm_w5 mm_w656) rfl rfl rfl hd_X12_isBook ⟨by rw [hRf]; exact Nat.le_of_ble_eq_true rfl, by rw [hRl]; exact Nat.le_of_ble_eq_true rfl⟩) (mm_preV hK hZ hS hA hP hD [0, 1] rfl rfl 0 rfl rfl rfl) rfl rfl hl.1 rfl (lv_room (Nat.le_of_ble_eq_true rfl)) dX12_drawn_6 ⟨by rw [hRc]; exact Nat.le_of_ble_eq_true rfl, by rw [hRs]; exact Nat.le_of_ble_eq_true rfl⟩) hP hD hS hA [0, 1] rfl (fun _ => rfl) ?_
  clear hP hD hS
  clear H locs
  intro v1 _u H locs hw hP hD hS
  rcases hw with rfl | rfl
  · refine lv_if_eq (tgt := 41) hx hb dX12_drawn_9 (by decide) (fun c2 => ?_) (fun c2 => ?_)
    · refine lv_bipush (v := (-2)) hx hb dX12_drawn_41 (by decide) ?_
      subst hAe
      rw [hQ]
      exact W.iret (v := (-2)) hx hb hr (fun t ht hW => ⟨⟨(-2), (), rfl, (mm_wk mm_km2 (by decide)), by rw [ht]; exact hP, hK.warm hW, hD⟩, hS.F ht⟩) hS.2.2 dX12_drawn_43
    · have q3 := mm_neL (lo := 1) (mm_ne c2) mm_k0 mm_k0 (by decide) (by decide)
      exact mm_no q3 (by decide)
  · refine lv_if_eq (tgt := 41) hx hb dX12_drawn_9 (by decide) (fun c4 => ?_) (fun c4 => ?_)
    · exact mm_eqN c4.symm mm_k0 mm_k1 (by decide)
    · refine lv_iload_n hx hb dX12_drawn_12 rfl (lv_at hl 1 rfl) ?_
      refine mm_finir (va_runS (As := [.int i_0]) (rest := []) ⟨hx, hb, hml, hown, hts⟩ (M305_X12_isSeed l G cy H.size i_0 ) (va_cwS 1 hts (mm_gS mm_w1608 mm_w1609 mm_w5 mm_w1610) rfl rfl rfl hs_X12_isSeed ⟨by rw [hRf]; exact Nat.le_of_ble_eq_true rfl, by rw [hRl]; exact Nat.le_of_ble_eq_true rfl⟩) (mm_preS hK hZ hS hA hP hD [] rfl rfl) rfl rfl hl.1 rfl (lv_room (Nat.le_of_ble_eq_true rfl)) dX12_drawn_13 ⟨by rw [hRc]; exact Nat.le_of_ble_eq_true rfl, by rw [hRs]; exact Nat.le_of_ble_eq_true rfl⟩) hP hD hS hA [] rfl (fun _ => rfl) ?_
      clear hP hD hS
      clear H locs
      intro v5 _u H locs hw hP hD hS
      rcases hw with rfl | ⟨rfl, w6⟩
      · refine lv_if_eq (tgt := 41) hx hb dX12_drawn_16 (by decide) (fun c7 => ?_) (fun c7 => ?_)
        · refine lv_bipush (v := (-2)) hx hb dX12_drawn_41 (by decide) ?_
          subst hAe
          rw [hQ]
          exact W.iret (v := (-2)) hx hb hr (fun t ht hW => ⟨⟨(-2), (), rfl, (mm_wk mm_km2 (by decide)), by rw [ht]; exact hP, hK.warm hW, hD⟩, hS.F ht⟩) hS.2.2 dX12_drawn_43
        · have q8 := mm_neL (lo := 1) (mm_ne c7) mm_k0 mm_k0 (by decide) (by decide)
          exact mm_no q8 (by decide)
      · refine lv_if_eq (tgt := 41) hx hb dX12_drawn_16 (by decide) (fun c9 => ?_) (fun c9 => ?_)
        · exact mm_eqN c9.symm mm_k0 mm_k1 (by decide)
        · refine lv_iload_n hx hb dX12_drawn_19 rfl (lv_at hl 2 rfl) ?_
          obtain ⟨v10, ev10⟩ : ∃ y : Int64, y = i_1.toInt64 := ⟨_, rfl⟩
          refine lv_i2l hx hb dX12_drawn_20 ev10.symm ?_
          have rv10 : mm_rl v10 (-2147483648) 2147483647 := mm_i2l ev10 (mm_top i_1)
          refine lv_lconst (v := 0) hx hb dX12_drawn_21 (by decide) ?_
          refine lv_ldc2 (v := 7) hx hb hown (mm_h hts mm_w1399) dX12_drawn_22 ?_
          refine mm_finir (va_runS (As := [.long v10, .long 0, .long 7]) (rest := []) ⟨hx, hb, hml, hown, hts⟩ (M7_X12_in l G cy H.size v10 7 ) (va_cwS 3 hts (mm_gS mm_w191 mm_w192 mm_w5 mm_w193) rfl rfl rfl hs_X12_in ⟨by rw [hRf]; exact Nat.le_of_ble_eq_true rfl, by rw [hRl]; exact Nat.le_of_ble_eq_true rfl⟩) (mm_preS hK hZ hS hA hP hD [] rfl rfl) rfl rfl hl.1 rfl (lv_room (Nat.le_of_ble_eq_true rfl)) dX12_drawn_25 ⟨by rw [hRc]; exact Nat.le_of_ble_eq_true rfl, by rw [hRs]; exact Nat.le_of_ble_eq_true rfl⟩) hP hD hS hA [] rfl (fun _ => rfl) ?_
          clear hP hD hS
          clear H locs
          intro v11 _u H locs hw hP hD hS
          rcases hw with ⟨rfl, w12⟩ | ⟨rfl, w13, w14, w15, w16⟩
          · refine lv_if_eq (tgt := 41) hx hb dX12_drawn_28 (by decide) (fun c17 => ?_) (fun c17 => ?_)
            · refine lv_bipush (v := (-2)) hx hb dX12_drawn_41 (by decide) ?_
              subst hAe
              rw [hQ]
              exact W.iret (v := (-2)) hx hb hr (fun t ht hW => ⟨⟨(-2), (), rfl, (mm_wk mm_km2 (by decide)), by rw [ht]; exact hP, hK.warm hW, hD⟩, hS.F ht⟩) hS.2.2 dX12_drawn_43
            · have q18 := mm_neL (lo := 1) (mm_ne c17) mm_k0 mm_k0 (by decide) (by decide)
              exact mm_no q18 (by decide)
          · have q19 := mm_meetl (lo := 0) (hi := 2147483647) w13 rv10 (by decide)
            have q20 := mm_meet (lo := 0) (hi := 2147483647) (mm_l2x ev10 q19) (mm_top i_1) (by decide)
            have q21 := mm_leLl w15 q19 mm_kl7
            have q22 := mm_meet (lo := 0) (hi := 7) (mm_l2x ev10 q21) q20 (by decide)
            refine lv_if_eq (tgt := 41) hx hb dX12_drawn_28 (by decide) (fun c23 => ?_) (fun c23 => ?_)
            · exact mm_eqN c23.symm mm_k0 mm_k1 (by decide)
            · refine lv_aload_n hx hb dX12_drawn_31 rfl (lv_at hl 0 rfl) ?_
              refine lv_iload_n hx hb dX12_drawn_32 rfl (lv_at hl 1 rfl) ?_
              obtain ⟨v24, ev24⟩ : ∃ y : Int64, y = i_0.toInt64 := ⟨_, rfl⟩
              refine lv_i2l hx hb dX12_drawn_33 ev24.symm ?_
              have rv24 : mm_rl v24 0 2000000000 := mm_i2l ev24 w6
              refine lv_iload_n hx hb dX12_drawn_34 rfl (lv_at hl 2 rfl) ?_
              refine mm_finir (va_runV (As := [.long v24, .int i_1]) (rest := []) ⟨hx, hb, hml, hown, hts⟩ (M306_X12_drawnOf l G cy H.size a_0 v24 i_1 0 a_1 a_2 a_3 a_4 a_5 i_3 i_4 i_5 i_6 i_7 j_0 i_8 i_9 i_10 i_11 a_6 a_7 a_8 a_9 a_10 a_11 a_12 a_13 a_14 a_15 a_16 a_17 a_18 i_12 i_13 i_14 i_15 i_16 i_17 a_19 i_18 a_20 i_24 i_25 i_26 i_27 i_28 i_29 i_30 i_31 i_32 i_33 i_34 i_35 i_36 i_37 i_38 i_39 i_40 i_41 i_42 i_43 i_44 i_45 i_46 i_47 i_48 i_49 i_50 i_51 i_52 i_53 rv24 q22 h5 h6 h7 h8 h9 h10 h11 h12 h13 h14 h15 h16 h17 h18 h19 h20 h21 h22 h23 h24 h25 h26 h27 h28 h29 h30 h31 h32 h33 h34) (cwV 2 hts (mm_gV mm_w1612 mm_w1613 mm_w1614 mm_w5 mm_w1615) rfl rfl rfl hd_X12_drawnOf ⟨by rw [hRf]; exact Nat.le_of_ble_eq_true rfl, by rw [hRl]; exact Nat.le_of_ble_eq_true rfl⟩) (mm_preV hK hZ hS hA hP hD [0, 2] rfl rfl 0 rfl rfl rfl) rfl rfl hl.1 rfl (lv_room (Nat.le_of_ble_eq_true rfl)) dX12_drawn_35 ⟨by rw [hRc]; exact Nat.le_of_ble_eq_true rfl, by rw [hRs]; exact Nat.le_of_ble_eq_true rfl⟩) hP hD hS hA [0, 2] rfl (fun _ => rfl) ?_
              clear hP hD hS
              clear H locs
              intro v25 _u H locs hw hP hD hS
              have w26 := hw
              refine lv_goto (tgt := 43) hx hb dX12_drawn_38 (by decide) ?_
              subst hAe
              rw [hQ]
              exact W.iret (v := v25) hx hb hr (fun t ht hW => ⟨⟨v25, (), rfl, (mm_wk w26 (by decide)), by rw [ht]; exact hP, hK.warm hW, hD⟩, hS.F ht⟩) hS.2.2 dX12_drawn_43

set_option maxHeartbeats 4000000 in
set_option maxRecDepth 100000 in
theorem M319_X12_drawnOf (l : Launch) (G : va_G) (cy : Nat → ClassId) (sz : Nat) (a_0 : Nat) (j_0 : Int64) (i_0 : Int32) (a_1 : Nat) (a_2 : Nat) (a_3 : Nat) (a_4 : Nat) (a_5 : Nat) (i_1 : Int32) (i_2 : Int32) (i_3 : Int32) (i_4 : Int32) (i_5 : Int32) (j_1 : Int64) (i_6 : Int32) (i_7 : Int32) (i_8 : Int32) (i_9 : Int32) (a_6 : Nat) (a_7 : Nat) (a_8 : Nat) (a_9 : Nat) (a_10 : Nat) (a_11 : Nat) (a_12 : Nat) (a_13 : Nat) (a_14 : Nat) (a_15 : Nat) (a_16 : Nat) (a_17 : Nat) (a_18 : Nat) (i_10 : Int32) (i_11 : Int32) (i_12 : Int32) (i_13 : Int32) (i_14 : Int32) (i_15 : Int32) (a_19 : Nat) (i_16 : Int32) (a_20 : Nat) (i_17 : Int32) (i_18 : Int32) (i_19 : Int32) (i_20 : Int32) (i_21 : Int32) (i_22 : Int32) (i_23 : Int32) (i_24 : Int32) (i_25 : Int32) (i_26 : Int32) (i_27 : Int32) (i_28 : Int32) (i_29 : Int32) (i_30 : Int32) (i_31 : Int32) (i_32 : Int32) (i_33 : Int32) (i_34 : Int32) (i_35 : Int32) (i_36 : Int32) (i_37 : Int32) (i_38 : Int32) (i_39 : Int32) (i_40 : Int32) (i_41 : Int32) (i_42 : Int32) (i_43 : Int32) (i_44 : Int32) (i_45 : Int32) (i_46 : Int32) (h0 : mm_rl j_0 0 2000000019) (h1 : mm_rg i_17 0 10) (h2 : mm_rg i_18 0 99) (h3 : mm_rg i_19 0 9) (h4 : mm_rg i_20 0 3) (h5 : mm_rg i_21 0 6) (h6 : mm_rg i_22 0 30) (h7 : mm_rg i_23 0 10) (h8 : mm_rg i_24 0 99) (h9 : mm_rg i_25 0 9) (h10 : mm_rg i_26 0 3) (h11 : mm_rg i_27 0 6) (h12 : mm_rg i_28 0 30) (h13 : mm_rg i_29 0 10) (h14 : mm_rg i_30 0 99) (h15 : mm_rg i_31 0 9) (h16 : mm_rg i_32 0 3) (h17 : mm_rg i_33 0 6) (h18 : mm_rg i_34 0 30) (h19 : mm_rg i_35 0 10) (h20 : mm_rg i_36 0 99) (h21 : mm_rg i_37 0 9) (h22 : mm_rg i_38 0 3) (h23 : mm_rg i_39 0 6) (h24 : mm_rg i_40 0 30) (h25 : mm_rg i_41 0 10) (h26 : mm_rg i_42 0 99) (h27 : mm_rg i_43 0 9) (h28 : mm_rg i_44 0 3) (h29 : mm_rg i_45 0 6) (h30 : mm_rg i_46 0 30)  : mm_CI l yX12_drawnOf (mm_ws yX12_drawnOf cX12_drawnOf 8 (some .int)) ({ frames := 0, cells := 0, slots := 0, locals := 0 } : Room) G cy sz [(a_0, .inr (12, [.int i_0, .ref a_1, .ref a_2, .ref a_3, .ref a_4, .ref a_5, .int i_1, .int i_2, .int i_3, .int i_4, .int i_5, .long j_1, .int i_6, .int i_7, .int i_8, .int i_9, .ref a_6, .ref a_7, .ref a_8, .ref a_9, .ref a_10, .ref a_11, .ref a_12, .ref a_13, .ref a_14, .ref a_15, .ref a_16, .ref a_17, .ref a_18, .int i_10, .int i_11, .int i_12, .int i_13, .int i_14, .int i_15, .ref a_19, .int i_16, .ref a_20])), (a_7, .inl (cy 1, 30, .inl (mm_g [i_17, i_18, i_19, i_20, i_21, i_22, i_23, i_24, i_25, i_26, i_27, i_28, i_29, i_30, i_31, i_32, i_33, i_34, i_35, i_36, i_37, i_38, i_39, i_40, i_41, i_42, i_43, i_44, i_45, i_46])))] [.ref a_0, .long j_0, .int 7] (fun u : Unit => [(a_0, .inr (12, [.int i_0, .ref a_1, .ref a_2, .ref a_3, .ref a_4, .ref a_5, .int i_1, .int i_2, .int i_3, .int i_4, .int i_5, .long j_1, .int i_6, .int i_7, .int i_8, .int i_9, .ref a_6, .ref a_7, .ref a_8, .ref a_9, .ref a_10, .ref a_11, .ref a_12, .ref a_13, .ref a_14, .ref a_15, .ref a_16, .ref a_17, .ref a_18, .int i_10, .int i_11, .int i_12, .int i_13, .int i_14, .int i_15, .ref a_19, .int i_16, .ref a_20])), (a_7, .inl (cy 1, 30, .inl (mm_g [i_17, i_18, i_19, i_20, i_21, i_22, i_23, i_24, i_25, i_26, i_27, i_28, i_29, i_30, i_31, i_32, i_33, i_34, i_35, i_36, i_37, i_38, i_39, i_40, i_41, i_42, i_43, i_44, i_45, i_46])))]) (fun (r : Int32) (u : Unit) => mm_rg r 0 7) 0 0 := by
  refine mm_begin (lv := [(0, .ref a_0), (1, .long j_0), (3, .int 7)]) (by decide) (Nat.le_of_ble_eq_true rfl) rfl ?_
  intro p e s m below meth c A ls R args Q H locs hRe hQ hAe hx hb hr hlocks hml hown hnm hts hsz hA hS hP hK hD hZ hl
  have hRf : R.frames = 0 := by rw [hRe]
  have hRl : R.locals = 0 := by rw [hRe]
  have hRc : R.cells = 0 := by rw [hRe]
  have hRs : R.slots = 0 := by rw [hRe]
  refine lv_lload_n hx hb dX12_drawnOf_0 rfl (lv_at hl 1 rfl) ?_
  refine lv_lstore (lv' := [(4, .long j_0), (0, .ref a_0), (1, .long j_0), (3, .int 7)]) hx hb dX12_drawnOf_1 hl (by decide) rfl ?_
  clear hl
  clear ls
  intro ls hl
  refine lv_iconst (v := 0) hx hb dX12_drawnOf_3 (by decide) ?_
  refine lv_istore (lv' := [(6, .int 0), (4, .long j_0), (0, .ref a_0), (1, .long j_0), (3, .int 7)]) hx hb dX12_drawnOf_4 hl (by decide) rfl ?_
  clear hl
  clear ls
  intro ls hl
  refine lv_iconst (v := 0) hx hb dX12_drawnOf_6 (by decide) ?_
  refine lv_istore (lv' := [(7, .int 0), (6, .int 0), (4, .long j_0), (0, .ref a_0), (1, .long j_0), (3, .int 7)]) hx hb dX12_drawnOf_7 hl (by decide) rfl ?_
  clear hl
  clear ls
  intro ls hl
  have L9_166 : ∀ (n : Nat) (x9_7_163 : Int32) (x9_6_164 : Int32) (x9_4_165 : Int64), mm_rg x9_7_163 0 7 → mm_rg x9_6_164 0 7 → mm_rl x9_4_165 0 2147483647 → (x9_6_164 : Int32).toInt ≤ (x9_7_163 : Int32).toInt → (7 - x9_7_163.toInt).toNat < n → ∀ (H : Heap) (locs : List Loc), va_P G vwCl [(a_0, .inr (12, [.int i_0, .ref a_1, .ref a_2, .ref a_3, .ref a_4, .ref a_5, .int i_1, .int i_2, .int i_3, .int i_4, .int i_5, .long j_1, .int i_6, .int i_7, .int i_8, .int i_9, .ref a_6, .ref a_7, .ref a_8, .ref a_9, .ref a_10, .ref a_11, .ref a_12, .ref a_13, .ref a_14, .ref a_15, .ref a_16, .ref a_17, .ref a_18, .int i_10, .int i_11, .int i_12, .int i_13, .int i_14, .int i_15, .ref a_19, .int i_16, .ref a_20])), (a_7, .inl (cy 1, 30, .inl (mm_g [i_17, i_18, i_19, i_20, i_21, i_22, i_23, i_24, i_25, i_26, i_27, i_28, i_29, i_30, i_31, i_32, i_33, i_34, i_35, i_36, i_37, i_38, i_39, i_40, i_41, i_42, i_43, i_44, i_45, i_46])))] H → va_D A [(a_0, .inr (12, [.int i_0, .ref a_1, .ref a_2, .ref a_3, .ref a_4, .ref a_5, .int i_1, .int i_2, .int i_3, .int i_4, .int i_5, .long j_1, .int i_6, .int i_7, .int i_8, .int i_9, .ref a_6, .ref a_7, .ref a_8, .ref a_9, .ref a_10, .ref a_11, .ref a_12, .ref a_13, .ref a_14, .ref a_15, .ref a_16, .ref a_17, .ref a_18, .int i_10, .int i_11, .int i_12, .int i_13, .int i_14, .int i_15, .ref a_19, .int i_16, .ref a_20])), (a_7, .inl (cy 1, 30, .inl (mm_g [i_17, i_18, i_19, i_20, i_21, i_22, i_23, i_24, i_25, i_26, i_27, i_28, i_29, i_30, i_31, i_32, i_33, i_34, i_35, i_36, i_37, i_38, i_39, i_40, i_41, i_42, i_43, i_44, i_45, i_46])))] → va_S A s.heap H locs → ∀ (ls : Array Slot), lv_has ls 8 [(7, .int x9_7_163), (6, .int x9_6_164), (4, .long x9_4_165), (0, .ref a_0), (1, .long j_0), (3, .int 7)] → W p l e R s m args below meth c H locs 0 0 Q (F0 m 9 ls []) := by
    intro n
    induction n with
    | zero => intro x9_7_163 x9_6_164 x9_4_165 rx9_7_163 rx9_6_164 rx9_4_165 w166 hm; exact absurd hm (Nat.not_lt_zero _)
    | succ n ih9 =>
      intro x9_7_163 x9_6_164 x9_4_165 rx9_7_163 rx9_6_164 rx9_4_165 w166 hm9 H locs hP hD hS ls hl
      refine lv_iload hx hb dX12_drawnOf_9 (lv_at hl 0 rfl) ?_
      refine lv_iload_n hx hb dX12_drawnOf_11 rfl (lv_at hl 5 rfl) ?_
      refine lv_icmp_ge (tgt := 68) hx hb dX12_drawnOf_12 (by decide) (fun c168 => ?_) (fun c168 => ?_)
      · have q169 := mm_leR (mm_le c168) mm_k7 rx9_7_163
        refine lv_iload hx hb dX12_drawnOf_68 (lv_at hl 1 rfl) ?_
        subst hAe
        rw [hQ]
        exact W.iret (v := x9_6_164) hx hb hr (fun t ht hW => ⟨⟨x9_6_164, (), rfl, rx9_6_164, by rw [ht]; exact hP, hK.warm hW, hD⟩, hS.F ht⟩) hS.2.2 dX12_drawnOf_70
      · have q170 := mm_ltL (h := 6) (mm_nle c168) rx9_7_163 mm_k7 (by decide)
        have q171 := mm_leL w166 rx9_6_164 q170
        refine lv_ldc2 (v := 1103515245) hx hb hown (mm_h hts mm_w1616) dX12_drawnOf_15 ?_
        refine lv_lload hx hb dX12_drawnOf_18 (lv_at hl 2 rfl) ?_
        refine lv_lmul hx hb dX12_drawnOf_20 ?_
        refine lv_topl (fun v172 ev172 => ?_)
        have rv172 : mm_rl v172 0 2369780942852698515 := mm_mull ev172 mm_kl1103515245 rx9_4_165 (by decide) (by decide)
        refine lv_ldc2 (v := 12345) hx hb hown (mm_h hts mm_w1617) dX12_drawnOf_21 ?_
        refine lv_ladd hx hb dX12_drawnOf_24 ?_
        refine lv_topl (fun v173 ev173 => ?_)
        have rv173 : mm_rl v173 12345 2369780942852710860 := mm_addl ev173 rv172 mm_kl12345 (by decide) (by decide)
        have tv173 := mm_addlEc ev173 rv172 mm_kl12345 (by decide) (k := 12345) (by decide)
        refine lv_ldc2 (v := 2147483648) hx hb hown (mm_h hts mm_w1618) dX12_drawnOf_25 ?_
        refine lv_lrem hx hb dX12_drawnOf_28 (mm_nzl mm_kl2147483648 (by decide)) ?_
        refine lv_topl (fun v174 ev174 => ?_)
        have rv174 : mm_rl v174 0 2147483647 := mm_reml ev174 rv173 mm_kl2147483648 (by decide) (by decide)
        refine lv_lstore (lv' := [(4, .long v174), (7, .int x9_7_163), (6, .int x9_6_164), (0, .ref a_0), (1, .long j_0), (3, .int 7)]) hx hb dX12_drawnOf_29 hl (by decide) rfl ?_
        clear hl
        clear ls
        intro ls hl
        refine lv_iload hx hb dX12_drawnOf_31 (lv_at hl 2 rfl) ?_
        refine lv_lload hx hb dX12_drawnOf_33 (lv_at hl 0 rfl) ?_
        refine lv_ldc2 (v := 65536) hx hb hown (mm_h hts mm_w1619) dX12_drawnOf_35 ?_
        refine lv_ldiv hx hb dX12_drawnOf_38 (mm_nzl mm_kl65536 (by decide)) ?_
        refine lv_topl (fun v175 ev175 => ?_)
        have rv175 : mm_rl v175 0 2147483647 := mm_divl ev175 rv174 mm_kl65536 (by decide) (by decide)
        refine lv_ldc2 (v := 10) hx hb hown (mm_h hts mm_w1511) dX12_drawnOf_39 ?_
        refine lv_lrem hx hb dX12_drawnOf_42 (mm_nzl mm_kl10 (by decide)) ?_
        refine lv_topl (fun v176 ev176 => ?_)
        have rv176 : mm_rl v176 0 9 := mm_reml ev176 rv175 mm_kl10 (by decide) (by decide)
        refine lv_aload_n hx hb dX12_drawnOf_43 rfl (lv_at hl 3 rfl) ?_
        refine va_get (D := G) (ci := 12) (v := .ref a_7) (C := RX12) (T := TX12) (N := 38) hx hb hts (mm_i inlX12) hown hK.1 hP 0 rfl rfl 17 (by decide) (mm_h hts mm_w149) (fun _ h9 => h9) rfl dX12_drawnOf_44 ?_
        refine lv_iconst (v := 0) hx hb dX12_drawnOf_47 (by decide) ?_
        refine va_iald hx hb hK.1 hP 1 1 rfl rfl (mm_in mm_k0 (by decide)) dX12_drawnOf_48 ?_
        rw [show (mm_g [i_17, i_18, i_19, i_20, i_21, i_22, i_23, i_24, i_25, i_26, i_27, i_28, i_29, i_30, i_31, i_32, i_33, i_34, i_35, i_36, i_37, i_38, i_39, i_40, i_41, i_42, i_43, i_44, i_45, i_46]) (0 : Int32).toNatClampNeg = i_17 from mm_ge 0 (by decide) rfl]
        obtain ⟨v177, ev177⟩ : ∃ y : Int64, y = i_17.toInt64 := ⟨_, rfl⟩
        refine lv_i2l hx hb dX12_drawnOf_49 ev177.symm ?_
        have rv177 : mm_rl v177 0 10 := mm_i2l ev177 h1
        refine W.lcmp hx hb dX12_drawnOf_50 ?_
        refine lv_topi (fun v178 ev178 => ?_)
        refine lv_if_ge (tgt := 58) hx hb dX12_drawnOf_51 (by decide) (fun c179 => ?_) (fun c179 => ?_)
        · have q180 := mm_leLl (mm_cmp_ge ev178 c179) rv177 rv176
          have q181 := mm_meet (lo := 0) (hi := 9) (mm_l2x ev177 q180) h1 (by decide)
          refine lv_iconst (v := 0) hx hb dX12_drawnOf_58 (by decide) ?_
          refine lv_iadd hx hb dX12_drawnOf_59 ?_
          refine lv_topi (fun v182 ev182 => ?_)
          have rv182 : mm_rg v182 0 6 := mm_add ev182 q171 mm_k0 (by decide) (by decide)
          have tv182 := mm_addEc ev182 q171 mm_k0 (by decide) (k := 0) (by decide)
          refine lv_istore (lv' := [(6, .int v182), (4, .long v174), (7, .int x9_7_163), (0, .ref a_0), (1, .long j_0), (3, .int 7)]) hx hb dX12_drawnOf_60 hl (by decide) rfl ?_
          clear hl
          clear ls
          intro ls hl
          obtain ⟨v183, ev183⟩ : ∃ y : Int32, y = x9_7_163 + 1 := ⟨_, rfl⟩
          refine lv_iinc (v := v183) (lv' := [(7, .int v183), (6, .int v182), (4, .long v174), (0, .ref a_0), (1, .long j_0), (3, .int 7)]) hx hb dX12_drawnOf_62 hl (k := 2) rfl (by rw [ev183]; rfl) (by decide) rfl ?_
          clear hl
          clear ls
          intro ls hl
          have rv183 : mm_rg v183 1 7 := mm_add ev183 q170 mm_k1 (by decide) (by decide)
          have tv183 := mm_addEc ev183 q170 mm_k1 (by decide) (k := 1) (by decide)
          refine lv_goto (tgt := 9) hx hb dX12_drawnOf_65 (by decide) ?_
          exact ih9 v183 v182 v174 (mm_wk rv183 (by decide)) (mm_wk rv182 (by decide)) rv174 (by have := tv182; have := tv183; have := w166; omega) (mm_mu hm9 tv183 (by decide) (rv183).2 (by decide)) H locs hP hD hS ls (lv_sub hl [0, 1, 2, 3, 4, 5] rfl)
        · have q184 := mm_ltRl (lo := 1) (mm_cmp_lt ev178 (mm_n_ge c179)) rv176 rv177 (by decide)
          have q185 := mm_meet (lo := 1) (hi := 10) (mm_l2x ev177 q184) h1 (by decide)
          refine lv_iconst (v := 1) hx hb dX12_drawnOf_54 (by decide) ?_
          refine lv_goto (tgt := 59) hx hb dX12_drawnOf_55 (by decide) ?_
          refine lv_iadd hx hb dX12_drawnOf_59 ?_
          refine lv_topi (fun v186 ev186 => ?_)
          have rv186 : mm_rg v186 1 7 := mm_add ev186 q171 mm_k1 (by decide) (by decide)
          have tv186 := mm_addEc ev186 q171 mm_k1 (by decide) (k := 1) (by decide)
          refine lv_istore (lv' := [(6, .int v186), (4, .long v174), (7, .int x9_7_163), (0, .ref a_0), (1, .long j_0), (3, .int 7)]) hx hb dX12_drawnOf_60 hl (by decide) rfl ?_
          clear hl
          clear ls
          intro ls hl
          obtain ⟨v187, ev187⟩ : ∃ y : Int32, y = x9_7_163 + 1 := ⟨_, rfl⟩
          refine lv_iinc (v := v187) (lv' := [(7, .int v187), (6, .int v186), (4, .long v174), (0, .ref a_0), (1, .long j_0), (3, .int 7)]) hx hb dX12_drawnOf_62 hl (k := 2) rfl (by rw [ev187]; rfl) (by decide) rfl ?_
          clear hl
          clear ls
          intro ls hl
          have rv187 : mm_rg v187 1 7 := mm_add ev187 q170 mm_k1 (by decide) (by decide)
          have tv187 := mm_addEc ev187 q170 mm_k1 (by decide) (k := 1) (by decide)
          refine lv_goto (tgt := 9) hx hb dX12_drawnOf_65 (by decide) ?_
          exact ih9 v187 v186 v174 (mm_wk rv187 (by decide)) (mm_wk rv186 (by decide)) rv174 (by have := tv186; have := tv187; have := w166; omega) (mm_mu hm9 tv187 (by decide) (rv187).2 (by decide)) H locs hP hD hS ls (lv_sub hl [0, 1, 2, 3, 4, 5] rfl)
  exact L9_166 _ 0 0 j_0 (mm_wk mm_k0 (by decide)) (mm_wk mm_k0 (by decide)) (mm_wkl h0 (by decide)) (Int.le_refl _) (Nat.lt_succ_self _) H locs hP hD hS ls (lv_sub hl [0, 1, 2, 3, 4, 5] rfl)

set_option maxHeartbeats 4000000 in
set_option maxRecDepth 100000 in
theorem M320_X12_luck (l : Launch) (G : va_G) (cy : Nat → ClassId) (sz : Nat) (a_0 : Nat) (i_0 : Int32) (i_1 : Int32) (i_2 : Int32) (i_3 : Int32) (i_4 : Int32) (i_5 : Int32) (a_1 : Nat) (a_2 : Nat) (a_3 : Nat) (a_4 : Nat) (a_5 : Nat) (i_6 : Int32) (i_7 : Int32) (i_8 : Int32) (i_9 : Int32) (i_10 : Int32) (j_0 : Int64) (i_11 : Int32) (i_12 : Int32) (i_13 : Int32) (i_14 : Int32) (a_6 : Nat) (a_7 : Nat) (a_8 : Nat) (a_9 : Nat) (a_10 : Nat) (a_11 : Nat) (a_12 : Nat) (a_13 : Nat) (a_14 : Nat) (a_15 : Nat) (a_16 : Nat) (a_17 : Nat) (a_18 : Nat) (i_15 : Int32) (i_16 : Int32) (i_17 : Int32) (i_18 : Int32) (i_19 : Int32) (i_20 : Int32) (a_19 : Nat) (i_21 : Int32) (a_20 : Nat) (i_22 : Int32) (i_23 : Int32) (i_24 : Int32) (i_25 : Int32) (i_26 : Int32) (i_27 : Int32) (i_28 : Int32) (i_29 : Int32) (i_30 : Int32) (i_31 : Int32) (i_32 : Int32) (i_33 : Int32) (i_34 : Int32) (i_35 : Int32) (i_36 : Int32) (i_37 : Int32) (i_38 : Int32) (i_39 : Int32) (i_40 : Int32) (i_41 : Int32) (i_42 : Int32) (i_43 : Int32) (i_44 : Int32) (i_45 : Int32) (i_46 : Int32) (i_47 : Int32) (i_48 : Int32) (i_49 : Int32) (i_50 : Int32) (i_51 : Int32) (i_52 : Int32) (i_53 : Int32) (i_54 : Int32) (i_55 : Int32) (i_56 : Int32) (f_0 : Nat → Int32) (f_1 : Nat → Int32) (f_2 : Nat → Int32) (f_3 : Nat → Int32) (f_4 : Nat → Int32) (f_5 : Nat → Int32) (f_6 : Nat → Int32) (f_7 : Nat → Int32) (f_8 : Nat → Int32) (f_9 : Nat → Int32) (h0 : mm_rg i_15 0 8) (h1 : mm_rg i_22 0 601) (h2 : mm_rg i_23 0 601) (h3 : mm_rg i_24 0 601) (h4 : mm_rg i_25 0 601) (h5 : mm_rg i_26 0 601) (h6 : mm_rg i_27 0 10) (h7 : mm_rg i_28 0 99) (h8 : mm_rg i_29 0 9) (h9 : mm_rg i_30 0 3) (h10 : mm_rg i_31 0 6) (h11 : mm_rg i_32 0 30) (h12 : mm_rg i_33 0 10) (h13 : mm_rg i_34 0 99) (h14 : mm_rg i_35 0 9) (h15 : mm_rg i_36 0 3) (h16 : mm_rg i_37 0 6) (h17 : mm_rg i_38 0 30) (h18 : mm_rg i_39 0 10) (h19 : mm_rg i_40 0 99) (h20 : mm_rg i_41 0 9) (h21 : mm_rg i_42 0 3) (h22 : mm_rg i_43 0 6) (h23 : mm_rg i_44 0 30) (h24 : mm_rg i_45 0 10) (h25 : mm_rg i_46 0 99) (h26 : mm_rg i_47 0 9) (h27 : mm_rg i_48 0 3) (h28 : mm_rg i_49 0 6) (h29 : mm_rg i_50 0 30) (h30 : mm_rg i_51 0 10) (h31 : mm_rg i_52 0 99) (h32 : mm_rg i_53 0 9) (h33 : mm_rg i_54 0 3) (h34 : mm_rg i_55 0 6) (h35 : mm_rg i_56 0 30) (h36 : mm_ar f_0 0 99) (h37 : mm_ar f_1 0 7) (h38 : mm_ar f_2 0 9) (h39 : mm_ar f_3 0 8) (h40 : mm_ar f_4 0 9) (h41 : mm_ar f_5 (-1) 99) (h42 : mm_ar f_6 0 9) (h43 : mm_ar f_7 0 210) (h44 : mm_ar f_8 0 210) (h45 : mm_ar f_9 0 9) (h46 : mm_rls f_1 f_2 0 i_29 i_30) (h47 : mm_txs f_3 f_4 0 i_29 i_31) (h48 : mm_acs f_5 0 i_29 i_30 i_32) (h49 : mm_tl i_22 i_30 i_31) (h50 : mm_rls f_1 f_2 1 i_35 i_36) (h51 : mm_txs f_3 f_4 1 i_35 i_37) (h52 : mm_acs f_5 1 i_35 i_36 i_38) (h53 : mm_tl i_23 i_36 i_37) (h54 : mm_rls f_1 f_2 2 i_41 i_42) (h55 : mm_txs f_3 f_4 2 i_41 i_43) (h56 : mm_acs f_5 2 i_41 i_42 i_44) (h57 : mm_tl i_24 i_42 i_43) (h58 : mm_rls f_1 f_2 3 i_47 i_48) (h59 : mm_txs f_3 f_4 3 i_47 i_49) (h60 : mm_acs f_5 3 i_47 i_48 i_50) (h61 : mm_tl i_25 i_48 i_49)  : mm_CI l yX12_luck (mm_ws yX12_luck cX12_luck 8 (some .int)) ({ frames := 14, cells := 0, slots := 0, locals := 300 } : Room) G cy sz [(a_0, .inr (12, [.int i_5, .ref a_1, .ref a_2, .ref a_3, .ref a_4, .ref a_5, .int i_6, .int i_7, .int i_8, .int i_9, .int i_10, .long j_0, .int i_11, .int i_12, .int i_13, .int i_14, .ref a_6, .ref a_7, .ref a_8, .ref a_9, .ref a_10, .ref a_11, .ref a_12, .ref a_13, .ref a_14, .ref a_15, .ref a_16, .ref a_17, .ref a_18, .int i_15, .int i_16, .int i_17, .int i_18, .int i_19, .int i_20, .ref a_19, .int i_21, .ref a_20])), (a_6, .inl (cy 1, 5, .inl (mm_g [i_22, i_23, i_24, i_25, i_26]))), (a_7, .inl (cy 1, 30, .inl (mm_g [i_27, i_28, i_29, i_30, i_31, i_32, i_33, i_34, i_35, i_36, i_37, i_38, i_39, i_40, i_41, i_42, i_43, i_44, i_45, i_46, i_47, i_48, i_49, i_50, i_51, i_52, i_53, i_54, i_55, i_56]))), (a_8, .inl (cy 1, 90, .inl f_0)), (a_9, .inl (cy 1, 15, .inl f_1)), (a_10, .inl (cy 1, 1050, .inl f_2)), (a_11, .inl (cy 1, 30, .inl f_3)), (a_12, .inl (cy 1, 240, .inl f_4)), (a_13, .inl (cy 1, 450, .inl f_5)), (a_15, .inl (cy 1, 7200, .inl f_6)), (a_16, .inl (cy 1, 3, .inl f_7)), (a_17, .inl (cy 1, 3, .inl f_8)), (a_18, .inl (cy 1, 8, .inl f_9))] [.ref a_0, .int i_0, .int i_1, .int i_2, .int i_3, .int i_4] (fun u : Int32 × Int32 × Int32 × (Nat → Int32) × (Nat → Int32) × (Nat → Int32) × (Nat → Int32) => [(a_0, .inr (12, [.int 0, .ref a_1, .ref a_2, .ref a_3, .ref a_4, .ref a_5, .int i_6, .int i_7, .int i_8, .int i_9, .int i_10, .long j_0, .int i_11, .int i_12, .int i_13, .int i_14, .ref a_6, .ref a_7, .ref a_8, .ref a_9, .ref a_10, .ref a_11, .ref a_12, .ref a_13, .ref a_14, .ref a_15, .ref a_16, .ref a_17, .ref a_18, .int u.1, .int u.2.1, .int u.2.2.1, .int i_18, .int i_19, .int i_20, .ref a_19, .int i_21, .ref a_20])), (a_6, .inl (cy 1, 5, .inl (mm_g [i_22, i_23, i_24, i_25, i_26]))), (a_7, .inl (cy 1, 30, .inl (mm_g [i_27, i_28, i_29, i_30, i_31, i_32, i_33, i_34, i_35, i_36, i_37, i_38, i_39, i_40, i_41, i_42, i_43, i_44, i_45, i_46, i_47, i_48, i_49, i_50, i_51, i_52, i_53, i_54, i_55, i_56]))), (a_8, .inl (cy 1, 90, .inl f_0)), (a_9, .inl (cy 1, 15, .inl f_1)), (a_10, .inl (cy 1, 1050, .inl f_2)), (a_11, .inl (cy 1, 30, .inl f_3)), (a_12, .inl (cy 1, 240, .inl f_4)), (a_13, .inl (cy 1, 450, .inl f_5)), (a_15, .inl (cy 1, 7200, .inl u.2.2.2.1)), (a_16, .inl (cy 1, 3, .inl u.2.2.2.2.1)), (a_17, .inl (cy 1, 3, .inl u.2.2.2.2.2.1)), (a_18, .inl (cy 1, 8, .inl u.2.2.2.2.2.2))]) (fun (r : Int32) (u : Int32 × Int32 × Int32 × (Nat → Int32) × (Nat → Int32) × (Nat → Int32) × (Nat → Int32)) => mm_rg u.1 0 8 ∧ mm_ar u.2.2.2.1 0 9 ∧ mm_ar u.2.2.2.2.1 0 210 ∧ mm_ar u.2.2.2.2.2.1 0 210 ∧ mm_ar u.2.2.2.2.2.2 0 9 ∧ True) 0 0 := by
  refine mm_begin (lv := [(0, .ref a_0), (1, .int i_0), (2, .int i_1), (3, .int i_2), (4, .int i_3), (5, .int i_4)]) (by decide) (Nat.le_of_ble_eq_true rfl) rfl ?_
  intro p e s m below meth c A ls R args Q H locs hRe hQ hAe hx hb hr hlocks hml hown hnm hts hsz hA hS hP hK hD hZ hl
  have hRf : R.frames = 14 := by rw [hRe]
  have hRl : R.locals = 300 := by rw [hRe]
  have hRc : R.cells = 0 := by rw [hRe]
  have hRs : R.slots = 0 := by rw [hRe]
  refine lv_aload_n hx hb dX12_luck_0 rfl (lv_at hl 0 rfl) ?_
  refine lv_iconst (v := 0) hx hb dX12_luck_1 (by decide) ?_
  refine va_put (D := G) (ci := 12) (v := .int 0) (ty := tyX12 0) (C := RX12) (T := TX12) (N := 38) hx hb hts (mm_i inlX12) tyX12 tyX12_ok nmX12 hown hK.1 hP hD hS 0 rfl rfl 0 (by decide) (mm_h hts mm_w177) (fun _ h9 => h9) rfl (tyX12_ok 0 (by decide)) rfl rfl (Nat.le_of_ble_eq_true rfl) dX12_luck_2 ?_
  clear hP hD hS
  clear H locs
  intro H locs (hP : va_P G vwCl [(a_0, .inr (12, [.int 0, .ref a_1, .ref a_2, .ref a_3, .ref a_4, .ref a_5, .int i_6, .int i_7, .int i_8, .int i_9, .int i_10, .long j_0, .int i_11, .int i_12, .int i_13, .int i_14, .ref a_6, .ref a_7, .ref a_8, .ref a_9, .ref a_10, .ref a_11, .ref a_12, .ref a_13, .ref a_14, .ref a_15, .ref a_16, .ref a_17, .ref a_18, .int i_15, .int i_16, .int i_17, .int i_18, .int i_19, .int i_20, .ref a_19, .int i_21, .ref a_20])), (a_6, .inl (cy 1, 5, .inl (mm_g [i_22, i_23, i_24, i_25, i_26]))), (a_7, .inl (cy 1, 30, .inl (mm_g [i_27, i_28, i_29, i_30, i_31, i_32, i_33, i_34, i_35, i_36, i_37, i_38, i_39, i_40, i_41, i_42, i_43, i_44, i_45, i_46, i_47, i_48, i_49, i_50, i_51, i_52, i_53, i_54, i_55, i_56]))), (a_8, .inl (cy 1, 90, .inl f_0)), (a_9, .inl (cy 1, 15, .inl f_1)), (a_10, .inl (cy 1, 1050, .inl f_2)), (a_11, .inl (cy 1, 30, .inl f_3)), (a_12, .inl (cy 1, 240, .inl f_4)), (a_13, .inl (cy 1, 450, .inl f_5)), (a_15, .inl (cy 1, 7200, .inl f_6)), (a_16, .inl (cy 1, 3, .inl f_7)), (a_17, .inl (cy 1, 3, .inl f_8)), (a_18, .inl (cy 1, 8, .inl f_9))] H) (hD : va_D A [(a_0, .inr (12, [.int 0, .ref a_1, .ref a_2, .ref a_3, .ref a_4, .ref a_5, .int i_6, .int i_7, .int i_8, .int i_9, .int i_10, .long j_0, .int i_11, .int i_12, .int i_13, .int i_14, .ref a_6, .ref a_7, .ref a_8, .ref a_9, .ref a_10, .ref a_11, .ref a_12, .ref a_13, .ref a_14, .ref a_15, .ref a_16, .ref a_17, .ref a_18, .int i_15, .int i_16, .int i_17, .int i_18, .int i_19, .int i_20, .ref a_19, .int i_21, .ref a_20])), (a_6, .inl (cy 1, 5, .inl (mm_g [i_22, i_23, i_24, i_25, i_26]))), (a_7, .inl (cy 1, 30, .inl (mm_g [i_27, i_28, i_29, i_30, i_31, i_32, i_33, i_34, i_35, i_36, i_37, i_38, i_39, i_40, i_41, i_42, i_43, i_44, i_45, i_46, i_47, i_48, i_49, i_50, i_51, i_52, i_53, i_54, i_55, i_56]))), (a_8, .inl (cy 1, 90, .inl f_0)), (a_9, .inl (cy 1, 15, .inl f_1)), (a_10, .inl (cy 1, 1050, .inl f_2)), (a_11, .inl (cy 1, 30, .inl f_3)), (a_12, .inl (cy 1, 240, .inl f_4)), (a_13, .inl (cy 1, 450, .inl f_5)), (a_15, .inl (cy 1, 7200, .inl f_6)), (a_16, .inl (cy 1, 3, .inl f_7)), (a_17, .inl (cy 1, 3, .inl f_8)), (a_18, .inl (cy 1, 8, .inl f_9))]) hS
  refine lv_iload_n hx hb dX12_luck_5 rfl (lv_at hl 1 rfl) ?_
  refine mm_finir (va_runS (As := [.int i_0]) (rest := []) ⟨hx, hb, hml, hown, hts⟩ (M305_X12_isSeed l G cy H.size i_0 ) (va_cwS 1 hts (mm_gS mm_w1608 mm_w1609 mm_w5 mm_w1610) rfl rfl rfl hs_X12_isSeed ⟨by rw [hRf]; exact Nat.le_of_ble_eq_true rfl, by rw [hRl]; exact Nat.le_of_ble_eq_true rfl⟩) (mm_preS hK hZ hS hA hP hD [] rfl rfl) rfl rfl hl.1 rfl (lv_room (Nat.le_of_ble_eq_true rfl)) dX12_luck_6 ⟨by rw [hRc]; exact Nat.le_of_ble_eq_true rfl, by rw [hRs]; exact Nat.le_of_ble_eq_true rfl⟩) hP hD hS hA [] rfl (fun _ => rfl) ?_
  clear hP hD hS
  clear H locs
  intro v1 _u H locs hw hP hD hS
  rcases hw with rfl | ⟨rfl, w2⟩
  · refine lv_if_eq (tgt := 44) hx hb dX12_luck_9 (by decide) (fun c3 => ?_) (fun c3 => ?_)
    · refine lv_bipush (v := (-2)) hx hb dX12_luck_44 (by decide) ?_
      subst hAe
      rw [hQ]
      exact W.iret (v := (-2)) hx hb hr (fun t ht hW => ⟨⟨(-2), (i_15, i_16, i_17, f_6, f_7, f_8, f_9), rfl, ⟨h0, h42, h43, h44, h45, trivial⟩, by rw [ht]; exact hP, hK.warm hW, hD⟩, hS.F ht⟩) hS.2.2 dX12_luck_46
    · have q4 := mm_neL (lo := 1) (mm_ne c3) mm_k0 mm_k0 (by decide) (by decide)
      exact mm_no q4 (by decide)
  · refine lv_if_eq (tgt := 44) hx hb dX12_luck_9 (by decide) (fun c5 => ?_) (fun c5 => ?_)
    · exact mm_eqN c5.symm mm_k0 mm_k1 (by decide)
    · refine lv_iload_n hx hb dX12_luck_12 rfl (lv_at hl 2 rfl) ?_
      obtain ⟨v6, ev6⟩ : ∃ y : Int64, y = i_1.toInt64 := ⟨_, rfl⟩
      refine lv_i2l hx hb dX12_luck_13 ev6.symm ?_
      have rv6 : mm_rl v6 (-2147483648) 2147483647 := mm_i2l ev6 (mm_top i_1)
      refine lv_lconst (v := 1) hx hb dX12_luck_14 (by decide) ?_
      refine lv_ldc2 (v := 20) hx hb hown (mm_h hts mm_w1628) dX12_luck_15 ?_
      refine mm_finir (va_runS (As := [.long v6, .long 1, .long 20]) (rest := []) ⟨hx, hb, hml, hown, hts⟩ (M63_X12_in l G cy H.size v6 20 ) (va_cwS 3 hts (mm_gS mm_w191 mm_w192 mm_w5 mm_w193) rfl rfl rfl hs_X12_in ⟨by rw [hRf]; exact Nat.le_of_ble_eq_true rfl, by rw [hRl]; exact Nat.le_of_ble_eq_true rfl⟩) (mm_preS hK hZ hS hA hP hD [] rfl rfl) rfl rfl hl.1 rfl (lv_room (Nat.le_of_ble_eq_true rfl)) dX12_luck_18 ⟨by rw [hRc]; exact Nat.le_of_ble_eq_true rfl, by rw [hRs]; exact Nat.le_of_ble_eq_true rfl⟩) hP hD hS hA [] rfl (fun _ => rfl) ?_
      clear hP hD hS
      clear H locs
      intro v7 _u H locs hw hP hD hS
      rcases hw with ⟨rfl, w8⟩ | ⟨rfl, w9, w10, w11, w12⟩
      · refine lv_if_eq (tgt := 44) hx hb dX12_luck_21 (by decide) (fun c13 => ?_) (fun c13 => ?_)
        · refine lv_bipush (v := (-2)) hx hb dX12_luck_44 (by decide) ?_
          subst hAe
          rw [hQ]
          exact W.iret (v := (-2)) hx hb hr (fun t ht hW => ⟨⟨(-2), (i_15, i_16, i_17, f_6, f_7, f_8, f_9), rfl, ⟨h0, h42, h43, h44, h45, trivial⟩, by rw [ht]; exact hP, hK.warm hW, hD⟩, hS.F ht⟩) hS.2.2 dX12_luck_46
        · have q14 := mm_neL (lo := 1) (mm_ne c13) mm_k0 mm_k0 (by decide) (by decide)
          exact mm_no q14 (by decide)
      · have q15 := mm_meetl (lo := 1) (hi := 2147483647) w9 rv6 (by decide)
        have q16 := mm_meet (lo := 1) (hi := 2147483647) (mm_l2x ev6 q15) (mm_top i_1) (by decide)
        have q17 := mm_leLl w11 q15 mm_kl20
        have q18 := mm_meet (lo := 1) (hi := 20) (mm_l2x ev6 q17) q16 (by decide)
        refine lv_if_eq (tgt := 44) hx hb dX12_luck_21 (by decide) (fun c19 => ?_) (fun c19 => ?_)
        · exact mm_eqN c19.symm mm_k0 mm_k1 (by decide)
        · refine lv_aload_n hx hb dX12_luck_24 rfl (lv_at hl 0 rfl) ?_
          refine lv_iload_n hx hb dX12_luck_25 rfl (lv_at hl 3 rfl) ?_
          refine lv_iload hx hb dX12_luck_26 (lv_at hl 4 rfl) ?_
          refine mm_finir (va_runV (As := [.int i_2, .int i_3]) (rest := []) ⟨hx, hb, hml, hown, hts⟩ (M104_X12_isThen l G cy H.size a_0 i_2 i_3 0 a_1 a_2 a_3 a_4 a_5 i_6 i_7 i_8 i_9 i_10 j_0 i_11 i_12 i_13 i_14 a_6 a_7 a_8 a_9 a_10 a_11 a_12 a_13 a_14 a_15 a_16 a_17 a_18 i_15 i_16 i_17 i_18 i_19 i_20 a_19 i_21 a_20 i_27 i_28 i_29 i_30 i_31 i_32 i_33 i_34 i_35 i_36 i_37 i_38 i_39 i_40 i_41 i_42 i_43 i_44 i_45 i_46 i_47 i_48 i_49 i_50 i_51 i_52 i_53 i_54 i_55 i_56 h6 h7 h8 h9 h10 h11 h12 h13 h14 h15 h16 h17 h18 h19 h20 h21 h22 h23 h24 h25 h26 h27 h28 h29 h30 h31 h32 h33 h34 h35) (cwV 2 hts (mm_gV mm_w678 mm_w679 mm_w680 mm_w5 mm_w681) rfl rfl rfl hd_X12_isThen ⟨by rw [hRf]; exact Nat.le_of_ble_eq_true rfl, by rw [hRl]; exact Nat.le_of_ble_eq_true rfl⟩) (mm_preV hK hZ hS hA hP hD [0, 2] rfl rfl 0 rfl rfl rfl) rfl rfl hl.1 rfl (lv_room (Nat.le_of_ble_eq_true rfl)) dX12_luck_28 ⟨by rw [hRc]; exact Nat.le_of_ble_eq_true rfl, by rw [hRs]; exact Nat.le_of_ble_eq_true rfl⟩) hP hD hS hA [0, 2] rfl (fun _ => rfl) ?_
          clear hP hD hS
          clear H locs
          intro v20 _u H locs hw hP hD hS
          rcases hw with rfl | ⟨rfl, w21, w22, w23⟩
          · refine lv_if_eq (tgt := 44) hx hb dX12_luck_31 (by decide) (fun c24 => ?_) (fun c24 => ?_)
            · refine lv_bipush (v := (-2)) hx hb dX12_luck_44 (by decide) ?_
              subst hAe
              rw [hQ]
              exact W.iret (v := (-2)) hx hb hr (fun t ht hW => ⟨⟨(-2), (i_15, i_16, i_17, f_6, f_7, f_8, f_9), rfl, ⟨h0, h42, h43, h44, h45, trivial⟩, by rw [ht]; exact hP, hK.warm hW, hD⟩, hS.F ht⟩) hS.2.2 dX12_luck_46
            · have q25 := mm_neL (lo := 1) (mm_ne c24) mm_k0 mm_k0 (by decide) (by decide)
              exact mm_no q25 (by decide)
          · have q26 := mm_ltR (lo := 1) w23 w21 h9 (by decide)
            have q27 : mm_rg i_22 1 601 := mm_tl_3 h49 q26 h1 (by decide)
            refine lv_if_eq (tgt := 44) hx hb dX12_luck_31 (by decide) (fun c28 => ?_) (fun c28 => ?_)
            · exact mm_eqN c28.symm mm_k0 mm_k1 (by decide)
            · refine lv_aload_n hx hb dX12_luck_34 rfl (lv_at hl 0 rfl) ?_
              refine lv_iload hx hb dX12_luck_35 (lv_at hl 5 rfl) ?_
              obtain ⟨v29, ev29⟩ : ∃ y : Int64, y = i_4.toInt64 := ⟨_, rfl⟩
              refine lv_i2l hx hb dX12_luck_37 ev29.symm ?_
              have rv29 : mm_rl v29 (-2147483648) 2147483647 := mm_i2l ev29 (mm_top i_4)
              refine mm_finir (va_runV (As := [.long v29]) (rest := []) ⟨hx, hb, hml, hown, hts⟩ (M96_X12_isText l G cy H.size a_0 v29 0 a_1 a_2 a_3 a_4 a_5 i_6 i_7 i_8 i_9 i_10 j_0 i_11 i_12 i_13 i_14 a_6 a_7 a_8 a_9 a_10 a_11 a_12 a_13 a_14 a_15 a_16 a_17 a_18 i_15 i_16 i_17 i_18 i_19 i_20 a_19 i_21 a_20 i_27 i_28 i_29 i_30 i_31 i_32 i_33 i_34 i_35 i_36 i_37 i_38 i_39 i_40 i_41 i_42 i_43 i_44 i_45 i_46 i_47 i_48 i_49 i_50 i_51 i_52 i_53 i_54 i_55 i_56 h6 h7 h8 (mm_wk q26 (by decide)) h10 h11 h12 h13 h14 h15 h16 h17 h18 h19 h20 h21 h22 h23 h24 h25 h26 h27 h28 h29 h30 h31 h32 h33 h34 h35) (cwV 1 hts (mm_gV mm_w613 mm_w614 mm_w615 mm_w5 mm_w616) rfl rfl rfl hd_X12_isText ⟨by rw [hRf]; exact Nat.le_of_ble_eq_true rfl, by rw [hRl]; exact Nat.le_of_ble_eq_true rfl⟩) (mm_preV hK hZ hS hA hP hD [0, 2] rfl rfl 0 rfl rfl rfl) rfl rfl hl.1 rfl (lv_room (Nat.le_of_ble_eq_true rfl)) dX12_luck_38 ⟨by rw [hRc]; exact Nat.le_of_ble_eq_true rfl, by rw [hRs]; exact Nat.le_of_ble_eq_true rfl⟩) hP hD hS hA [0, 2] rfl (fun _ => rfl) ?_
              clear hP hD hS
              clear H locs
              intro v30 _u H locs hw hP hD hS
              rcases hw with rfl | ⟨rfl, w31, w32⟩
              · refine lv_if_ne (tgt := 47) hx hb dX12_luck_41 (by decide) (fun c33 => ?_) (fun c33 => ?_)
                · have q34 := mm_neL (lo := 1) (mm_ne c33) mm_k0 mm_k0 (by decide) (by decide)
                  exact mm_no q34 (by decide)
                · refine lv_bipush (v := (-2)) hx hb dX12_luck_44 (by decide) ?_
                  subst hAe
                  rw [hQ]
                  exact W.iret (v := (-2)) hx hb hr (fun t ht hW => ⟨⟨(-2), (i_15, i_16, i_17, f_6, f_7, f_8, f_9), rfl, ⟨h0, h42, h43, h44, h45, trivial⟩, by rw [ht]; exact hP, hK.warm hW, hD⟩, hS.F ht⟩) hS.2.2 dX12_luck_46
              · have q35 := mm_meet (lo := 0) (hi := 5) (mm_l2x ev29 w31) (mm_top i_4) (by decide)
                have w36 := mm_tx_lt w32 (mm_i2lE ev29)
                have q37 := mm_ltR (lo := 1) w36 q35 h10 (by decide)
                refine lv_if_ne (tgt := 47) hx hb dX12_luck_41 (by decide) (fun c38 => ?_) (fun c38 => ?_)
                · refine lv_aload_n hx hb dX12_luck_47 rfl (lv_at hl 0 rfl) ?_
                  refine mm_finv (va_runV (As := []) (rest := []) ⟨hx, hb, hml, hown, hts⟩ (M125_X12_lays l G cy H.size a_0 0 a_1 a_2 a_3 a_4 a_5 i_6 i_7 i_8 i_9 i_10 j_0 i_11 i_12 i_13 i_14 a_6 a_7 a_8 a_9 a_10 a_11 a_12 a_13 a_14 a_15 a_16 a_17 a_18 i_15 i_16 i_17 i_18 i_19 i_20 a_19 i_21 a_20 i_22 i_23 i_24 i_25 i_26 i_27 i_28 i_29 i_30 i_31 i_32 i_33 i_34 i_35 i_36 i_37 i_38 i_39 i_40 i_41 i_42 i_43 i_44 i_45 i_46 i_47 i_48 i_49 i_50 i_51 i_52 i_53 i_54 i_55 i_56 f_1 f_2 f_5 f_6 f_7 f_8 (mm_wk q27 (by decide)) h2 h3 h4 h5 h6 h7 h8 (mm_wk q26 (by decide)) (mm_wk q37 (by decide)) h11 h12 h13 h14 h15 h16 h17 h18 h19 h20 h21 h22 h23 h24 h25 h26 h27 h28 h29 h30 h31 h32 h33 h34 h35 h37 h38 h41 h42 h43 h44 h46 h48 h49 h50 h52 h53 h54 h56 h57 h58 h60 h61) (cwV 0 hts (mm_gV mm_w686 mm_w687 mm_w688 mm_w5 mm_w689) rfl rfl rfl hd_X12_lays ⟨by rw [hRf]; exact Nat.le_of_ble_eq_true rfl, by rw [hRl]; exact Nat.le_of_ble_eq_true rfl⟩) (mm_preV hK hZ hS hA hP hD [0, 1, 2, 4, 5, 8, 9, 10, 11] rfl rfl 0 rfl rfl rfl) rfl rfl hl.1 rfl (lv_room (Nat.le_of_ble_eq_true rfl)) dX12_luck_48 ⟨by rw [hRc]; exact Nat.le_of_ble_eq_true rfl, by rw [hRs]; exact Nat.le_of_ble_eq_true rfl⟩) hP hD hS hA (fun u : (Nat → Int32) × (Nat → Int32) × (Nat → Int32) => [(a_0, .inr (12, [.int 0, .ref a_1, .ref a_2, .ref a_3, .ref a_4, .ref a_5, .int i_6, .int i_7, .int i_8, .int i_9, .int i_10, .long j_0, .int i_11, .int i_12, .int i_13, .int i_14, .ref a_6, .ref a_7, .ref a_8, .ref a_9, .ref a_10, .ref a_11, .ref a_12, .ref a_13, .ref a_14, .ref a_15, .ref a_16, .ref a_17, .ref a_18, .int i_15, .int i_16, .int i_17, .int i_18, .int i_19, .int i_20, .ref a_19, .int i_21, .ref a_20])), (a_6, .inl (cy 1, 5, .inl (mm_g [i_22, i_23, i_24, i_25, i_26]))), (a_7, .inl (cy 1, 30, .inl (mm_g [i_27, i_28, i_29, i_30, i_31, i_32, i_33, i_34, i_35, i_36, i_37, i_38, i_39, i_40, i_41, i_42, i_43, i_44, i_45, i_46, i_47, i_48, i_49, i_50, i_51, i_52, i_53, i_54, i_55, i_56]))), (a_8, .inl (cy 1, 90, .inl f_0)), (a_9, .inl (cy 1, 15, .inl f_1)), (a_10, .inl (cy 1, 1050, .inl f_2)), (a_11, .inl (cy 1, 30, .inl f_3)), (a_12, .inl (cy 1, 240, .inl f_4)), (a_13, .inl (cy 1, 450, .inl f_5)), (a_15, .inl (cy 1, 7200, .inl u.1)), (a_16, .inl (cy 1, 3, .inl u.2.1)), (a_17, .inl (cy 1, 3, .inl u.2.2)), (a_18, .inl (cy 1, 8, .inl f_9))]) [0, 1, 2, 4, 5, 8, 9, 10, 11] [3, 6, 7, 12] (n := 13) (fun _ => rfl) (by decide +kernel) (by decide +kernel) rfl (fun _ => rfl) (wr := [(a_8, .inl (cy 1, 90, .inl f_0)), (a_11, .inl (cy 1, 30, .inl f_3)), (a_12, .inl (cy 1, 240, .inl f_4)), (a_18, .inl (cy 1, 8, .inl f_9))]) rfl (fun _ => rfl) (fun _ => @rfl _ ([a_0, a_6, a_7, a_9, a_10, a_13, a_15, a_16, a_17] : List Nat)) ?_
                  clear hP hD hS
                  clear H locs
                  intro u
                  obtain ⟨n39, n40, n41⟩ := u
                  intro H locs hw (hP : va_P G vwCl [(a_0, .inr (12, [.int 0, .ref a_1, .ref a_2, .ref a_3, .ref a_4, .ref a_5, .int i_6, .int i_7, .int i_8, .int i_9, .int i_10, .long j_0, .int i_11, .int i_12, .int i_13, .int i_14, .ref a_6, .ref a_7, .ref a_8, .ref a_9, .ref a_10, .ref a_11, .ref a_12, .ref a_13, .ref a_14, .ref a_15, .ref a_16, .ref a_17, .ref a_18, .int i_15, .int i_16, .int i_17, .int i_18, .int i_19, .int i_20, .ref a_19, .int i_21, .ref a_20])), (a_6, .inl (cy 1, 5, .inl (mm_g [i_22, i_23, i_24, i_25, i_26]))), (a_7, .inl (cy 1, 30, .inl (mm_g [i_27, i_28, i_29, i_30, i_31, i_32, i_33, i_34, i_35, i_36, i_37, i_38, i_39, i_40, i_41, i_42, i_43, i_44, i_45, i_46, i_47, i_48, i_49, i_50, i_51, i_52, i_53, i_54, i_55, i_56]))), (a_8, .inl (cy 1, 90, .inl f_0)), (a_9, .inl (cy 1, 15, .inl f_1)), (a_10, .inl (cy 1, 1050, .inl f_2)), (a_11, .inl (cy 1, 30, .inl f_3)), (a_12, .inl (cy 1, 240, .inl f_4)), (a_13, .inl (cy 1, 450, .inl f_5)), (a_15, .inl (cy 1, 7200, .inl n39)), (a_16, .inl (cy 1, 3, .inl n40)), (a_17, .inl (cy 1, 3, .inl n41)), (a_18, .inl (cy 1, 8, .inl f_9))] H) (hD : va_D A [(a_0, .inr (12, [.int 0, .ref a_1, .ref a_2, .ref a_3, .ref a_4, .ref a_5, .int i_6, .int i_7, .int i_8, .int i_9, .int i_10, .long j_0, .int i_11, .int i_12, .int i_13, .int i_14, .ref a_6, .ref a_7, .ref a_8, .ref a_9, .ref a_10, .ref a_11, .ref a_12, .ref a_13, .ref a_14, .ref a_15, .ref a_16, .ref a_17, .ref a_18, .int i_15, .int i_16, .int i_17, .int i_18, .int i_19, .int i_20, .ref a_19, .int i_21, .ref a_20])), (a_6, .inl (cy 1, 5, .inl (mm_g [i_22, i_23, i_24, i_25, i_26]))), (a_7, .inl (cy 1, 30, .inl (mm_g [i_27, i_28, i_29, i_30, i_31, i_32, i_33, i_34, i_35, i_36, i_37, i_38, i_39, i_40, i_41, i_42, i_43, i_44, i_45, i_46, i_47, i_48, i_49, i_50, i_51, i_52, i_53, i_54, i_55, i_56]))), (a_8, .inl (cy 1, 90, .inl f_0)), (a_9, .inl (cy 1, 15, .inl f_1)), (a_10, .inl (cy 1, 1050, .inl f_2)), (a_11, .inl (cy 1, 30, .inl f_3)), (a_12, .inl (cy 1, 240, .inl f_4)), (a_13, .inl (cy 1, 450, .inl f_5)), (a_15, .inl (cy 1, 7200, .inl n39)), (a_16, .inl (cy 1, 3, .inl n40)), (a_17, .inl (cy 1, 3, .inl n41)), (a_18, .inl (cy 1, 8, .inl f_9))]) hS
                  obtain ⟨w42, w43, w44, w45, w46⟩ := hw
                  replace w45 : mm_laid n40 n41 i_30 := w45
                  replace w46 : mm_tab n39 n40 i_29 i_30 := w46
                  refine lv_iconst (v := 0) hx hb dX12_luck_51 (by decide) ?_
                  refine lv_istore (lv' := [(6, .int 0), (0, .ref a_0), (1, .int i_0), (2, .int i_1), (3, .int i_2), (4, .int i_3), (5, .int i_4)]) hx hb dX12_luck_52 hl (by decide) rfl ?_
                  clear hl
                  clear ls
                  intro ls hl
                  refine lv_iconst (v := 0) hx hb dX12_luck_54 (by decide) ?_
                  refine lv_istore (lv' := [(7, .int 0), (6, .int 0), (0, .ref a_0), (1, .int i_0), (2, .int i_1), (3, .int i_2), (4, .int i_3), (5, .int i_4)]) hx hb dX12_luck_55 hl (by decide) rfl ?_
                  clear hl
                  clear ls
                  intro ls hl
                  have L57_719 : ∀ (n : Nat) (x57_7_714 : Int32) (x57_6_715 : Int32) (y57_0_29_716 : Int32) (y57_0_30_717 : Int32) (y57_0_31_718 : Int32) (z57_12_719 : Nat → Int32), mm_rg x57_7_714 0 20 → mm_rg y57_0_29_716 0 8 → mm_ar z57_12_719 0 9 → (20 - x57_7_714.toInt).toNat < n → ∀ (H : Heap) (locs : List Loc), va_P G vwCl [(a_0, .inr (12, [.int 0, .ref a_1, .ref a_2, .ref a_3, .ref a_4, .ref a_5, .int i_6, .int i_7, .int i_8, .int i_9, .int i_10, .long j_0, .int i_11, .int i_12, .int i_13, .int i_14, .ref a_6, .ref a_7, .ref a_8, .ref a_9, .ref a_10, .ref a_11, .ref a_12, .ref a_13, .ref a_14, .ref a_15, .ref a_16, .ref a_17, .ref a_18, .int y57_0_29_716, .int y57_0_30_717, .int y57_0_31_718, .int i_18, .int i_19, .int i_20, .ref a_19, .int i_21, .ref a_20])), (a_6, .inl (cy 1, 5, .inl (mm_g [i_22, i_23, i_24, i_25, i_26]))), (a_7, .inl (cy 1, 30, .inl (mm_g [i_27, i_28, i_29, i_30, i_31, i_32, i_33, i_34, i_35, i_36, i_37, i_38, i_39, i_40, i_41, i_42, i_43, i_44, i_45, i_46, i_47, i_48, i_49, i_50, i_51, i_52, i_53, i_54, i_55, i_56]))), (a_8, .inl (cy 1, 90, .inl f_0)), (a_9, .inl (cy 1, 15, .inl f_1)), (a_10, .inl (cy 1, 1050, .inl f_2)), (a_11, .inl (cy 1, 30, .inl f_3)), (a_12, .inl (cy 1, 240, .inl f_4)), (a_13, .inl (cy 1, 450, .inl f_5)), (a_15, .inl (cy 1, 7200, .inl n39)), (a_16, .inl (cy 1, 3, .inl n40)), (a_17, .inl (cy 1, 3, .inl n41)), (a_18, .inl (cy 1, 8, .inl z57_12_719))] H → va_D A [(a_0, .inr (12, [.int 0, .ref a_1, .ref a_2, .ref a_3, .ref a_4, .ref a_5, .int i_6, .int i_7, .int i_8, .int i_9, .int i_10, .long j_0, .int i_11, .int i_12, .int i_13, .int i_14, .ref a_6, .ref a_7, .ref a_8, .ref a_9, .ref a_10, .ref a_11, .ref a_12, .ref a_13, .ref a_14, .ref a_15, .ref a_16, .ref a_17, .ref a_18, .int y57_0_29_716, .int y57_0_30_717, .int y57_0_31_718, .int i_18, .int i_19, .int i_20, .ref a_19, .int i_21, .ref a_20])), (a_6, .inl (cy 1, 5, .inl (mm_g [i_22, i_23, i_24, i_25, i_26]))), (a_7, .inl (cy 1, 30, .inl (mm_g [i_27, i_28, i_29, i_30, i_31, i_32, i_33, i_34, i_35, i_36, i_37, i_38, i_39, i_40, i_41, i_42, i_43, i_44, i_45, i_46, i_47, i_48, i_49, i_50, i_51, i_52, i_53, i_54, i_55, i_56]))), (a_8, .inl (cy 1, 90, .inl f_0)), (a_9, .inl (cy 1, 15, .inl f_1)), (a_10, .inl (cy 1, 1050, .inl f_2)), (a_11, .inl (cy 1, 30, .inl f_3)), (a_12, .inl (cy 1, 240, .inl f_4)), (a_13, .inl (cy 1, 450, .inl f_5)), (a_15, .inl (cy 1, 7200, .inl n39)), (a_16, .inl (cy 1, 3, .inl n40)), (a_17, .inl (cy 1, 3, .inl n41)), (a_18, .inl (cy 1, 8, .inl z57_12_719))] → va_S A s.heap H locs → ∀ (ls : Array Slot), lv_has ls 8 [(7, .int x57_7_714), (6, .int x57_6_715), (0, .ref a_0), (1, .int i_0), (2, .int i_1), (3, .int i_2), (4, .int i_3), (5, .int i_4)] → W p l e R s m args below meth c H locs 0 0 Q (F0 m 57 ls []) := by
                    intro n
                    induction n with
                    | zero => intro x57_7_714 x57_6_715 y57_0_29_716 y57_0_30_717 y57_0_31_718 z57_12_719 rx57_7_714 ry57_0_29_716 rz57_12_719 hm; exact absurd hm (Nat.not_lt_zero _)
                    | succ n ih57 =>
                      intro x57_7_714 x57_6_715 y57_0_29_716 y57_0_30_717 y57_0_31_718 z57_12_719 rx57_7_714 ry57_0_29_716 rz57_12_719 hm57 H locs hP hD hS ls hl
                      refine lv_iload hx hb dX12_luck_57 (lv_at hl 0 rfl) ?_
                      refine lv_iload_n hx hb dX12_luck_59 rfl (lv_at hl 4 rfl) ?_
                      refine lv_icmp_ge (tgt := 108) hx hb dX12_luck_60 (by decide) (fun c721 => ?_) (fun c721 => ?_)
                      · have q722 := mm_leR (mm_le c721) q18 rx57_7_714
                        refine lv_iload hx hb dX12_luck_108 (lv_at hl 1 rfl) ?_
                        subst hAe
                        rw [hQ]
                        exact W.iret (v := x57_6_715) hx hb hr (fun t ht hW => ⟨⟨x57_6_715, (y57_0_29_716, y57_0_30_717, y57_0_31_718, n39, n40, n41, z57_12_719), rfl, ⟨ry57_0_29_716, w42, w43, w44, rz57_12_719, trivial⟩, by rw [ht]; exact hP, hK.warm hW, hD⟩, hS.F ht⟩) hS.2.2 dX12_luck_110
                      · have q723 := mm_ltL (h := 19) (mm_nle c721) rx57_7_714 q18 (by decide)
                        refine lv_iload hx hb dX12_luck_63 (lv_at hl 1 rfl) ?_
                        refine lv_aload_n hx hb dX12_luck_65 rfl (lv_at hl 2 rfl) ?_
                        refine lv_iload_n hx hb dX12_luck_66 rfl (lv_at hl 5 rfl) ?_
                        refine lv_iload hx hb dX12_luck_67 (lv_at hl 6 rfl) ?_
                        refine lv_aload_n hx hb dX12_luck_69 rfl (lv_at hl 2 rfl) ?_
                        refine lv_iload_n hx hb dX12_luck_70 rfl (lv_at hl 3 rfl) ?_
                        obtain ⟨v724, ev724⟩ : ∃ y : Int64, y = i_0.toInt64 := ⟨_, rfl⟩
                        refine lv_i2l hx hb dX12_luck_71 ev724.symm ?_
                        have rv724 : mm_rl v724 0 2000000000 := mm_i2l ev724 w2
                        refine lv_iload hx hb dX12_luck_72 (lv_at hl 0 rfl) ?_
                        obtain ⟨v725, ev725⟩ : ∃ y : Int64, y = x57_7_714.toInt64 := ⟨_, rfl⟩
                        refine lv_i2l hx hb dX12_luck_74 ev725.symm ?_
                        have rv725 : mm_rl v725 0 19 := mm_i2l ev725 q723
                        refine lv_ladd hx hb dX12_luck_75 ?_
                        refine lv_topl (fun v726 ev726 => ?_)
                        have rv726 : mm_rl v726 0 2000000019 := mm_addl ev726 rv724 rv725 (by decide) (by decide)
                        have tv726 := mm_addlE ev726 rv724 rv725 (by decide)
                        refine lv_bipush (v := 7) hx hb dX12_luck_76 (by decide) ?_
                        refine mm_finir (va_runV (As := [.long v726, .int 7]) (rest := [.int i_3, .int i_2, .ref a_0, .int x57_6_715]) ⟨hx, hb, hml, hown, hts⟩ (M319_X12_drawnOf l G cy H.size a_0 v726 0 a_1 a_2 a_3 a_4 a_5 i_6 i_7 i_8 i_9 i_10 j_0 i_11 i_12 i_13 i_14 a_6 a_7 a_8 a_9 a_10 a_11 a_12 a_13 a_14 a_15 a_16 a_17 a_18 y57_0_29_716 y57_0_30_717 y57_0_31_718 i_18 i_19 i_20 a_19 i_21 a_20 i_27 i_28 i_29 i_30 i_31 i_32 i_33 i_34 i_35 i_36 i_37 i_38 i_39 i_40 i_41 i_42 i_43 i_44 i_45 i_46 i_47 i_48 i_49 i_50 i_51 i_52 i_53 i_54 i_55 i_56 rv726 h6 h7 h8 (mm_wk q26 (by decide)) (mm_wk q37 (by decide)) h11 h12 h13 h14 h15 h16 h17 h18 h19 h20 h21 h22 h23 h24 h25 h26 h27 h28 h29 h30 h31 h32 h33 h34 h35) (cwV 2 hts (mm_gV mm_w1612 mm_w1613 mm_w1614 mm_w5 mm_w1615) rfl rfl rfl hd_X12_drawnOf ⟨by rw [hRf]; exact Nat.le_of_ble_eq_true rfl, by rw [hRl]; exact Nat.le_of_ble_eq_true rfl⟩) (mm_preV hK hZ hS hA hP hD [0, 2] rfl rfl 0 rfl rfl rfl) rfl rfl hl.1 rfl (lv_room (Nat.le_of_ble_eq_true rfl)) dX12_luck_78 ⟨by rw [hRc]; exact Nat.le_of_ble_eq_true rfl, by rw [hRs]; exact Nat.le_of_ble_eq_true rfl⟩) hP hD hS hA [0, 2] rfl (fun _ => rfl) ?_
                        clear hP hD hS
                        clear H locs
                        intro v727 _u H locs hw hP hD hS
                        have w728 := hw
                        refine lv_iadd hx hb dX12_luck_81 ?_
                        refine lv_topi (fun v729 ev729 => ?_)
                        have rv729 : mm_rg v729 0 1000000007 := mm_add ev729 w22 w728 (by decide) (by decide)
                        have tv729 := mm_addE ev729 w22 w728 (by decide)
                        refine lv_iload hx hb dX12_luck_82 (lv_at hl 7 rfl) ?_
                        refine mm_fini (va_runV (As := [.int i_2, .int v729, .int i_4]) (rest := [.int x57_6_715]) ⟨hx, hb, hml, hown, hts⟩ (M141_X12_reads l G cy H.size a_0 i_2 v729 i_4 0 a_1 a_2 a_3 a_4 a_5 i_6 i_7 i_8 i_9 i_10 j_0 i_11 i_12 i_13 i_14 a_6 a_7 a_8 a_9 a_10 a_11 a_12 a_13 a_14 a_15 a_16 a_17 a_18 y57_0_29_716 y57_0_30_717 y57_0_31_718 i_18 i_19 i_20 a_19 i_21 a_20 i_27 i_28 i_29 i_30 i_31 i_32 i_33 i_34 i_35 i_36 i_37 i_38 i_39 i_40 i_41 i_42 i_43 i_44 i_45 i_46 i_47 i_48 i_49 i_50 i_51 i_52 i_53 i_54 i_55 i_56 f_0 f_3 f_4 f_5 n39 n40 z57_12_719 w21 (mm_wk rv729 (by decide)) q35 ry57_0_29_716 h6 h7 h8 (mm_wk q26 (by decide)) (mm_wk q37 (by decide)) h11 h12 h13 h14 h15 h16 h17 h18 h19 h20 h21 h22 h23 h24 h25 h26 h27 h28 h29 h30 h31 h32 h33 h34 h35 h36 h39 h40 h41 w42 w43 rz57_12_719 h47 h48 h51 h52 h55 h56 h59 h60 (mm_f1_l w45 w23 w21 (by decide))) (cwV 3 hts (mm_gV mm_w852 mm_w853 mm_w854 mm_w5 mm_w855) rfl rfl rfl hd_X12_reads ⟨by rw [hRf]; exact Nat.le_of_ble_eq_true rfl, by rw [hRl]; exact Nat.le_of_ble_eq_true rfl⟩) (mm_preV hK hZ hS hA hP hD [0, 2, 3, 6, 7, 8, 9, 10, 12] rfl rfl 0 rfl rfl rfl) rfl rfl hl.1 rfl (lv_room (Nat.le_of_ble_eq_true rfl)) dX12_luck_84 ⟨by rw [hRc]; exact Nat.le_of_ble_eq_true rfl, by rw [hRs]; exact Nat.le_of_ble_eq_true rfl⟩) hP hD hS hA (fun u : Int32 × Int32 × Int32 × (Nat → Int32) => [(a_0, .inr (12, [.int 0, .ref a_1, .ref a_2, .ref a_3, .ref a_4, .ref a_5, .int i_6, .int i_7, .int i_8, .int i_9, .int i_10, .long j_0, .int i_11, .int i_12, .int i_13, .int i_14, .ref a_6, .ref a_7, .ref a_8, .ref a_9, .ref a_10, .ref a_11, .ref a_12, .ref a_13, .ref a_14, .ref a_15, .ref a_16, .ref a_17, .ref a_18, .int u.1, .int u.2.1, .int u.2.2.1, .int i_18, .int i_19, .int i_20, .ref a_19, .int i_21, .ref a_20])), (a_6, .inl (cy 1, 5, .inl (mm_g [i_22, i_23, i_24, i_25, i_26]))), (a_7, .inl (cy 1, 30, .inl (mm_g [i_27, i_28, i_29, i_30, i_31, i_32, i_33, i_34, i_35, i_36, i_37, i_38, i_39, i_40, i_41, i_42, i_43, i_44, i_45, i_46, i_47, i_48, i_49, i_50, i_51, i_52, i_53, i_54, i_55, i_56]))), (a_8, .inl (cy 1, 90, .inl f_0)), (a_9, .inl (cy 1, 15, .inl f_1)), (a_10, .inl (cy 1, 1050, .inl f_2)), (a_11, .inl (cy 1, 30, .inl f_3)), (a_12, .inl (cy 1, 240, .inl f_4)), (a_13, .inl (cy 1, 450, .inl f_5)), (a_15, .inl (cy 1, 7200, .inl n39)), (a_16, .inl (cy 1, 3, .inl n40)), (a_17, .inl (cy 1, 3, .inl n41)), (a_18, .inl (cy 1, 8, .inl u.2.2.2))]) [0, 2, 3, 6, 7, 8, 9, 10, 12] [1, 4, 5, 11] (n := 13) (fun _ => rfl) (by decide +kernel) (by decide +kernel) rfl (fun _ => rfl) (wr := [(a_6, .inl (cy 1, 5, .inl (mm_g [i_22, i_23, i_24, i_25, i_26]))), (a_9, .inl (cy 1, 15, .inl f_1)), (a_10, .inl (cy 1, 1050, .inl f_2)), (a_17, .inl (cy 1, 3, .inl n41))]) rfl (fun _ => rfl) (fun _ => @rfl _ ([a_0, a_7, a_8, a_11, a_12, a_13, a_15, a_16, a_18] : List Nat)) ?_
                        clear hP hD hS
                        clear H locs
                        intro v734 u
                        obtain ⟨n730, n731, n732, n733⟩ := u
                        intro H locs hw (hP : va_P G vwCl [(a_0, .inr (12, [.int 0, .ref a_1, .ref a_2, .ref a_3, .ref a_4, .ref a_5, .int i_6, .int i_7, .int i_8, .int i_9, .int i_10, .long j_0, .int i_11, .int i_12, .int i_13, .int i_14, .ref a_6, .ref a_7, .ref a_8, .ref a_9, .ref a_10, .ref a_11, .ref a_12, .ref a_13, .ref a_14, .ref a_15, .ref a_16, .ref a_17, .ref a_18, .int n730, .int n731, .int n732, .int i_18, .int i_19, .int i_20, .ref a_19, .int i_21, .ref a_20])), (a_6, .inl (cy 1, 5, .inl (mm_g [i_22, i_23, i_24, i_25, i_26]))), (a_7, .inl (cy 1, 30, .inl (mm_g [i_27, i_28, i_29, i_30, i_31, i_32, i_33, i_34, i_35, i_36, i_37, i_38, i_39, i_40, i_41, i_42, i_43, i_44, i_45, i_46, i_47, i_48, i_49, i_50, i_51, i_52, i_53, i_54, i_55, i_56]))), (a_8, .inl (cy 1, 90, .inl f_0)), (a_9, .inl (cy 1, 15, .inl f_1)), (a_10, .inl (cy 1, 1050, .inl f_2)), (a_11, .inl (cy 1, 30, .inl f_3)), (a_12, .inl (cy 1, 240, .inl f_4)), (a_13, .inl (cy 1, 450, .inl f_5)), (a_15, .inl (cy 1, 7200, .inl n39)), (a_16, .inl (cy 1, 3, .inl n40)), (a_17, .inl (cy 1, 3, .inl n41)), (a_18, .inl (cy 1, 8, .inl n733))] H) (hD : va_D A [(a_0, .inr (12, [.int 0, .ref a_1, .ref a_2, .ref a_3, .ref a_4, .ref a_5, .int i_6, .int i_7, .int i_8, .int i_9, .int i_10, .long j_0, .int i_11, .int i_12, .int i_13, .int i_14, .ref a_6, .ref a_7, .ref a_8, .ref a_9, .ref a_10, .ref a_11, .ref a_12, .ref a_13, .ref a_14, .ref a_15, .ref a_16, .ref a_17, .ref a_18, .int n730, .int n731, .int n732, .int i_18, .int i_19, .int i_20, .ref a_19, .int i_21, .ref a_20])), (a_6, .inl (cy 1, 5, .inl (mm_g [i_22, i_23, i_24, i_25, i_26]))), (a_7, .inl (cy 1, 30, .inl (mm_g [i_27, i_28, i_29, i_30, i_31, i_32, i_33, i_34, i_35, i_36, i_37, i_38, i_39, i_40, i_41, i_42, i_43, i_44, i_45, i_46, i_47, i_48, i_49, i_50, i_51, i_52, i_53, i_54, i_55, i_56]))), (a_8, .inl (cy 1, 90, .inl f_0)), (a_9, .inl (cy 1, 15, .inl f_1)), (a_10, .inl (cy 1, 1050, .inl f_2)), (a_11, .inl (cy 1, 30, .inl f_3)), (a_12, .inl (cy 1, 240, .inl f_4)), (a_13, .inl (cy 1, 450, .inl f_5)), (a_15, .inl (cy 1, 7200, .inl n39)), (a_16, .inl (cy 1, 3, .inl n40)), (a_17, .inl (cy 1, 3, .inl n41)), (a_18, .inl (cy 1, 8, .inl n733))]) hS
                        obtain ⟨w735, w736, hw⟩ := hw
                        obtain ⟨w737, w738⟩ := hw
                        replace w738 : mm_rd n39 n40 f_0 f_3 f_4 f_5 i_2 v729 i_4 i_28 i_29 i_32 v734 := w738
                        refine lv_aload_n hx hb dX12_luck_87 rfl (lv_at hl 2 rfl) ?_
                        refine mm_finir (va_runV (As := []) (rest := [.int v734, .int x57_6_715]) ⟨hx, hb, hml, hown, hts⟩ (M139_X12_stockNow l G cy H.size a_0 0 a_1 a_2 a_3 a_4 a_5 i_6 i_7 i_8 i_9 i_10 j_0 i_11 i_12 i_13 i_14 a_6 a_7 a_8 a_9 a_10 a_11 a_12 a_13 a_14 a_15 a_16 a_17 a_18 n730 n731 n732 i_18 i_19 i_20 a_19 i_21 a_20 i_27 i_28 i_29 i_30 i_31 i_32 i_33 i_34 i_35 i_36 i_37 i_38 i_39 i_40 i_41 i_42 i_43 i_44 i_45 i_46 i_47 i_48 i_49 i_50 i_51 i_52 i_53 i_54 i_55 i_56 f_5 h6 h7 h8 (mm_wk q26 (by decide)) (mm_wk q37 (by decide)) h11 h12 h13 h14 h15 h16 h17 h18 h19 h20 h21 h22 h23 h24 h25 h26 h27 h28 h29 h30 h31 h32 h33 h34 h35 h41 h48 h52 h56 h60) (cwV 0 hts (mm_gV mm_w861 mm_w862 mm_w863 mm_w5 mm_w864) rfl rfl rfl hd_X12_stockNow ⟨by rw [hRf]; exact Nat.le_of_ble_eq_true rfl, by rw [hRl]; exact Nat.le_of_ble_eq_true rfl⟩) (mm_preV hK hZ hS hA hP hD [0, 2, 8] rfl rfl 0 rfl rfl rfl) rfl rfl hl.1 rfl (lv_room (Nat.le_of_ble_eq_true rfl)) dX12_luck_88 ⟨by rw [hRc]; exact Nat.le_of_ble_eq_true rfl, by rw [hRs]; exact Nat.le_of_ble_eq_true rfl⟩) hP hD hS hA [0, 2, 8] rfl (fun _ => rfl) ?_
                        clear hP hD hS
                        clear H locs
                        intro v739 _u H locs hw hP hD hS
                        obtain ⟨w740, w741⟩ := hw
                        refine lv_icmp_le (tgt := 98) hx hb dX12_luck_91 (by decide) (fun c742 => ?_) (fun c742 => ?_)
                        · have q743 := mm_leL (mm_le c742) w737 w740
                          refine lv_iconst (v := 0) hx hb dX12_luck_98 (by decide) ?_
                          refine lv_iadd hx hb dX12_luck_99 ?_
                          refine lv_topi (fun v744 ev744 => ?_)
                          have rv744 : mm_rg v744 (-2147483648) 2147483647 := mm_add ev744 (mm_top x57_6_715) mm_k0 (by decide) (by decide)
                          have tv744 := mm_addEc ev744 (mm_top x57_6_715) mm_k0 (by decide) (k := 0) (by decide)
                          refine lv_istore (lv' := [(6, .int v744), (7, .int x57_7_714), (0, .ref a_0), (1, .int i_0), (2, .int i_1), (3, .int i_2), (4, .int i_3), (5, .int i_4)]) hx hb dX12_luck_100 hl (by decide) rfl ?_
                          clear hl
                          clear ls
                          intro ls hl
                          obtain ⟨v745, ev745⟩ : ∃ y : Int32, y = x57_7_714 + 1 := ⟨_, rfl⟩
                          refine lv_iinc (v := v745) (lv' := [(7, .int v745), (6, .int v744), (0, .ref a_0), (1, .int i_0), (2, .int i_1), (3, .int i_2), (4, .int i_3), (5, .int i_4)]) hx hb dX12_luck_102 hl (k := 1) rfl (by rw [ev745]; rfl) (by decide) rfl ?_
                          clear hl
                          clear ls
                          intro ls hl
                          have rv745 : mm_rg v745 1 20 := mm_add ev745 q723 mm_k1 (by decide) (by decide)
                          have tv745 := mm_addEc ev745 q723 mm_k1 (by decide) (k := 1) (by decide)
                          refine lv_goto (tgt := 57) hx hb dX12_luck_105 (by decide) ?_
                          exact ih57 v745 v744 n730 n731 n732 n733 (mm_wk rv745 (by decide)) w735 w736 (mm_mu hm57 tv745 (by decide) (rv745).2 (by decide)) H locs hP hD hS ls (lv_sub hl [0, 1, 2, 3, 4, 5, 6, 7] rfl)
                        · have q746 := mm_ltR (lo := 1) (mm_nle c742) w740 w737 (by decide)
                          refine lv_iconst (v := 1) hx hb dX12_luck_94 (by decide) ?_
                          refine lv_goto (tgt := 99) hx hb dX12_luck_95 (by decide) ?_
                          refine lv_iadd hx hb dX12_luck_99 ?_
                          refine lv_topi (fun v747 ev747 => ?_)
                          refine lv_istore (lv' := [(6, .int v747), (7, .int x57_7_714), (0, .ref a_0), (1, .int i_0), (2, .int i_1), (3, .int i_2), (4, .int i_3), (5, .int i_4)]) hx hb dX12_luck_100 hl (by decide) rfl ?_
                          clear hl
                          clear ls
                          intro ls hl
                          obtain ⟨v748, ev748⟩ : ∃ y : Int32, y = x57_7_714 + 1 := ⟨_, rfl⟩
                          refine lv_iinc (v := v748) (lv' := [(7, .int v748), (6, .int v747), (0, .ref a_0), (1, .int i_0), (2, .int i_1), (3, .int i_2), (4, .int i_3), (5, .int i_4)]) hx hb dX12_luck_102 hl (k := 1) rfl (by rw [ev748]; rfl) (by decide) rfl ?_
                          clear hl
                          clear ls
                          intro ls hl
                          have rv748 : mm_rg v748 1 20 := mm_add ev748 q723 mm_k1 (by decide) (by decide)
                          have tv748 := mm_addEc ev748 q723 mm_k1 (by decide) (k := 1) (by decide)
                          refine lv_goto (tgt := 57) hx hb dX12_luck_105 (by decide) ?_
                          exact ih57 v748 v747 n730 n731 n732 n733 (mm_wk rv748 (by decide)) w735 w736 (mm_mu hm57 tv748 (by decide) (rv748).2 (by decide)) H locs hP hD hS ls (lv_sub hl [0, 1, 2, 3, 4, 5, 6, 7] rfl)
                  exact L57_719 _ 0 0 i_15 i_16 i_17 f_9 (mm_wk mm_k0 (by decide)) h0 h45 (Nat.lt_succ_self _) H locs hP hD hS ls (lv_sub hl [0, 1, 2, 3, 4, 5, 6, 7] rfl)
                · exact mm_eqN c38.symm mm_k0 mm_k1 (by decide)

set_option maxHeartbeats 4000000 in
set_option maxRecDepth 100000 in
theorem M321_X12_rate (l : Launch) (G : va_G) (cy : Nat → ClassId) (sz : Nat) (a_0 : Nat) (i_0 : Int32) (i_1 : Int32) (i_2 : Int32) (a_1 : Nat) (a_2 : Nat) (a_3 : Nat) (a_4 : Nat) (a_5 : Nat) (i_3 : Int32) (i_4 : Int32) (i_5 : Int32) (i_6 : Int32) (i_7 : Int32) (j_0 : Int64) (i_8 : Int32) (i_9 : Int32) (i_10 : Int32) (i_11 : Int32) (a_6 : Nat) (a_7 : Nat) (a_8 : Nat) (a_9 : Nat) (a_10 : Nat) (a_11 : Nat) (a_12 : Nat) (a_13 : Nat) (a_14 : Nat) (a_15 : Nat) (a_16 : Nat) (a_17 : Nat) (a_18 : Nat) (i_12 : Int32) (i_13 : Int32) (i_14 : Int32) (i_15 : Int32) (i_16 : Int32) (i_17 : Int32) (a_19 : Nat) (i_18 : Int32) (a_20 : Nat) (i_19 : Int32) (i_20 : Int32) (i_21 : Int32) (i_22 : Int32) (i_23 : Int32) (i_24 : Int32) (i_25 : Int32) (i_26 : Int32) (i_27 : Int32) (i_28 : Int32) (i_29 : Int32) (i_30 : Int32) (i_31 : Int32) (i_32 : Int32) (i_33 : Int32) (i_34 : Int32) (i_35 : Int32) (i_36 : Int32) (i_37 : Int32) (i_38 : Int32) (i_39 : Int32) (i_40 : Int32) (i_41 : Int32) (i_42 : Int32) (i_43 : Int32) (i_44 : Int32) (i_45 : Int32) (i_46 : Int32) (i_47 : Int32) (i_48 : Int32) (f_0 : Nat → Int32) (h0 : mm_rg i_19 0 10) (h1 : mm_rg i_20 0 99) (h2 : mm_rg i_21 0 9) (h3 : mm_rg i_22 0 3) (h4 : mm_rg i_23 0 6) (h5 : mm_rg i_24 0 30) (h6 : mm_rg i_25 0 10) (h7 : mm_rg i_26 0 99) (h8 : mm_rg i_27 0 9) (h9 : mm_rg i_28 0 3) (h10 : mm_rg i_29 0 6) (h11 : mm_rg i_30 0 30) (h12 : mm_rg i_31 0 10) (h13 : mm_rg i_32 0 99) (h14 : mm_rg i_33 0 9) (h15 : mm_rg i_34 0 3) (h16 : mm_rg i_35 0 6) (h17 : mm_rg i_36 0 30) (h18 : mm_rg i_37 0 10) (h19 : mm_rg i_38 0 99) (h20 : mm_rg i_39 0 9) (h21 : mm_rg i_40 0 3) (h22 : mm_rg i_41 0 6) (h23 : mm_rg i_42 0 30) (h24 : mm_rg i_43 0 10) (h25 : mm_rg i_44 0 99) (h26 : mm_rg i_45 0 9) (h27 : mm_rg i_46 0 3) (h28 : mm_rg i_47 0 6) (h29 : mm_rg i_48 0 30) (h30 : mm_ar f_0 0 99)  : mm_CI l yX12_rate (mm_ws yX12_rate cX12_rate 4 (some .int)) ({ frames := 1, cells := 0, slots := 0, locals := 25 } : Room) G cy sz [(a_0, .inr (12, [.int i_2, .ref a_1, .ref a_2, .ref a_3, .ref a_4, .ref a_5, .int i_3, .int i_4, .int i_5, .int i_6, .int i_7, .long j_0, .int i_8, .int i_9, .int i_10, .int i_11, .ref a_6, .ref a_7, .ref a_8, .ref a_9, .ref a_10, .ref a_11, .ref a_12, .ref a_13, .ref a_14, .ref a_15, .ref a_16, .ref a_17, .ref a_18, .int i_12, .int i_13, .int i_14, .int i_15, .int i_16, .int i_17, .ref a_19, .int i_18, .ref a_20])), (a_7, .inl (cy 1, 30, .inl (mm_g [i_19, i_20, i_21, i_22, i_23, i_24, i_25, i_26, i_27, i_28, i_29, i_30, i_31, i_32, i_33, i_34, i_35, i_36, i_37, i_38, i_39, i_40, i_41, i_42, i_43, i_44, i_45, i_46, i_47, i_48]))), (a_8, .inl (cy 1, 90, .inl f_0))] [.ref a_0, .int i_0, .int i_1] (fun u : (Nat → Int32) => [(a_0, .inr (12, [.int 0, .ref a_1, .ref a_2, .ref a_3, .ref a_4, .ref a_5, .int i_3, .int i_4, .int i_5, .int i_6, .int i_7, .long j_0, .int i_8, .int i_9, .int i_10, .int i_11, .ref a_6, .ref a_7, .ref a_8, .ref a_9, .ref a_10, .ref a_11, .ref a_12, .ref a_13, .ref a_14, .ref a_15, .ref a_16, .ref a_17, .ref a_18, .int i_12, .int i_13, .int i_14, .int i_15, .int i_16, .int i_17, .ref a_19, .int i_18, .ref a_20])), (a_7, .inl (cy 1, 30, .inl (mm_g [i_19, i_20, i_21, i_22, i_23, i_24, i_25, i_26, i_27, i_28, i_29, i_30, i_31, i_32, i_33, i_34, i_35, i_36, i_37, i_38, i_39, i_40, i_41, i_42, i_43, i_44, i_45, i_46, i_47, i_48]))), (a_8, .inl (cy 1, 90, .inl u))]) (fun (r : Int32) (u : (Nat → Int32)) => mm_ar u 0 99 ∧ mm_rg r (-5) 99) 0 0 := by
  refine mm_begin (lv := [(0, .ref a_0), (1, .int i_0), (2, .int i_1)]) (by decide) (Nat.le_of_ble_eq_true rfl) rfl ?_
  intro p e s m below meth c A ls R args Q H locs hRe hQ hAe hx hb hr hlocks hml hown hnm hts hsz hA hS hP hK hD hZ hl
  have hRf : R.frames = 1 := by rw [hRe]
  have hRl : R.locals = 25 := by rw [hRe]
  have hRc : R.cells = 0 := by rw [hRe]
  have hRs : R.slots = 0 := by rw [hRe]
  refine lv_aload_n hx hb dX12_rate_0 rfl (lv_at hl 0 rfl) ?_
  refine lv_iconst (v := 0) hx hb dX12_rate_1 (by decide) ?_
  refine va_put (D := G) (ci := 12) (v := .int 0) (ty := tyX12 0) (C := RX12) (T := TX12) (N := 38) hx hb hts (mm_i inlX12) tyX12 tyX12_ok nmX12 hown hK.1 hP hD hS 0 rfl rfl 0 (by decide) (mm_h hts mm_w177) (fun _ h9 => h9) rfl (tyX12_ok 0 (by decide)) rfl rfl (Nat.le_of_ble_eq_true rfl) dX12_rate_2 ?_
  clear hP hD hS
  clear H locs
  intro H locs (hP : va_P G vwCl [(a_0, .inr (12, [.int 0, .ref a_1, .ref a_2, .ref a_3, .ref a_4, .ref a_5, .int i_3, .int i_4, .int i_5, .int i_6, .int i_7, .long j_0, .int i_8, .int i_9, .int i_10, .int i_11, .ref a_6, .ref a_7, .ref a_8, .ref a_9, .ref a_10, .ref a_11, .ref a_12, .ref a_13, .ref a_14, .ref a_15, .ref a_16, .ref a_17, .ref a_18, .int i_12, .int i_13, .int i_14, .int i_15, .int i_16, .int i_17, .ref a_19, .int i_18, .ref a_20])), (a_7, .inl (cy 1, 30, .inl (mm_g [i_19, i_20, i_21, i_22, i_23, i_24, i_25, i_26, i_27, i_28, i_29, i_30, i_31, i_32, i_33, i_34, i_35, i_36, i_37, i_38, i_39, i_40, i_41, i_42, i_43, i_44, i_45, i_46, i_47, i_48]))), (a_8, .inl (cy 1, 90, .inl f_0))] H) (hD : va_D A [(a_0, .inr (12, [.int 0, .ref a_1, .ref a_2, .ref a_3, .ref a_4, .ref a_5, .int i_3, .int i_4, .int i_5, .int i_6, .int i_7, .long j_0, .int i_8, .int i_9, .int i_10, .int i_11, .ref a_6, .ref a_7, .ref a_8, .ref a_9, .ref a_10, .ref a_11, .ref a_12, .ref a_13, .ref a_14, .ref a_15, .ref a_16, .ref a_17, .ref a_18, .int i_12, .int i_13, .int i_14, .int i_15, .int i_16, .int i_17, .ref a_19, .int i_18, .ref a_20])), (a_7, .inl (cy 1, 30, .inl (mm_g [i_19, i_20, i_21, i_22, i_23, i_24, i_25, i_26, i_27, i_28, i_29, i_30, i_31, i_32, i_33, i_34, i_35, i_36, i_37, i_38, i_39, i_40, i_41, i_42, i_43, i_44, i_45, i_46, i_47, i_48]))), (a_8, .inl (cy 1, 90, .inl f_0))]) hS
  refine lv_iload_n hx hb dX12_rate_5 rfl (lv_at hl 1 rfl) ?_
  obtain ⟨v1, ev1⟩ : ∃ y : Int64, y = i_0.toInt64 := ⟨_, rfl⟩
  refine lv_i2l hx hb dX12_rate_6 ev1.symm ?_
  have rv1 : mm_rl v1 (-2147483648) 2147483647 := mm_i2l ev1 (mm_top i_0)
  refine lv_lconst (v := 0) hx hb dX12_rate_7 (by decide) ?_
  refine lv_aload_n hx hb dX12_rate_8 rfl (lv_at hl 0 rfl) ?_
  refine mm_finir (va_runV (As := []) (rest := [.long 0, .long v1]) ⟨hx, hb, hml, hown, hts⟩ (M92_X12_senses l G cy H.size a_0 0 a_1 a_2 a_3 a_4 a_5 i_3 i_4 i_5 i_6 i_7 j_0 i_8 i_9 i_10 i_11 a_6 a_7 a_8 a_9 a_10 a_11 a_12 a_13 a_14 a_15 a_16 a_17 a_18 i_12 i_13 i_14 i_15 i_16 i_17 a_19 i_18 a_20 i_19 i_20 i_21 i_22 i_23 i_24 i_25 i_26 i_27 i_28 i_29 i_30 i_31 i_32 i_33 i_34 i_35 i_36 i_37 i_38 i_39 i_40 i_41 i_42 i_43 i_44 i_45 i_46 i_47 i_48 h0 h1 h2 h3 h4 h5 h6 h7 h8 h9 h10 h11 h12 h13 h14 h15 h16 h17 h18 h19 h20 h21 h22 h23 h24 h25 h26 h27 h28 h29) (cwV 0 hts (mm_gV mm_w588 mm_w589 mm_w590 mm_w5 mm_w591) rfl rfl rfl hd_X12_senses ⟨by rw [hRf]; exact Nat.le_of_ble_eq_true rfl, by rw [hRl]; exact Nat.le_of_ble_eq_true rfl⟩) (mm_preV hK hZ hS hA hP hD [0, 1] rfl rfl 0 rfl rfl rfl) rfl rfl hl.1 rfl (lv_room (Nat.le_of_ble_eq_true rfl)) dX12_rate_9 ⟨by rw [hRc]; exact Nat.le_of_ble_eq_true rfl, by rw [hRs]; exact Nat.le_of_ble_eq_true rfl⟩) hP hD hS hA [0, 1] rfl (fun _ => rfl) ?_
  clear hP hD hS
  clear H locs
  intro v2 _u H locs hw hP hD hS
  subst hw
  obtain ⟨v3, ev3⟩ : ∃ y : Int64, y = i_21.toInt64 := ⟨_, rfl⟩
  refine lv_i2l hx hb dX12_rate_12 ev3.symm ?_
  have rv3 : mm_rl v3 0 9 := mm_i2l ev3 h2
  refine lv_lconst (v := 1) hx hb dX12_rate_13 (by decide) ?_
  refine lv_lsub hx hb dX12_rate_14 ?_
  refine lv_topl (fun v4 ev4 => ?_)
  have rv4 : mm_rl v4 (-1) 8 := mm_subl ev4 rv3 mm_kl1 (by decide) (by decide)
  have tv4 := mm_sublEc ev4 rv3 mm_kl1 (by decide) (k := 1) (by decide)
  refine mm_finir (va_runS (As := [.long v1, .long 0, .long v4]) (rest := []) ⟨hx, hb, hml, hown, hts⟩ (M7_X12_in l G cy H.size v1 v4 ) (va_cwS 3 hts (mm_gS mm_w191 mm_w192 mm_w5 mm_w193) rfl rfl rfl hs_X12_in ⟨by rw [hRf]; exact Nat.le_of_ble_eq_true rfl, by rw [hRl]; exact Nat.le_of_ble_eq_true rfl⟩) (mm_preS hK hZ hS hA hP hD [] rfl rfl) rfl rfl hl.1 rfl (lv_room (Nat.le_of_ble_eq_true rfl)) dX12_rate_15 ⟨by rw [hRc]; exact Nat.le_of_ble_eq_true rfl, by rw [hRs]; exact Nat.le_of_ble_eq_true rfl⟩) hP hD hS hA [] rfl (fun _ => rfl) ?_
  clear hP hD hS
  clear H locs
  intro v5 _u H locs hw hP hD hS
  rcases hw with ⟨rfl, w6⟩ | ⟨rfl, w7, w8, w9, w10⟩
  · refine lv_if_eq (tgt := 45) hx hb dX12_rate_18 (by decide) (fun c11 => ?_) (fun c11 => ?_)
    · refine lv_bipush (v := (-2)) hx hb dX12_rate_45 (by decide) ?_
      subst hAe
      rw [hQ]
      exact W.iret (v := (-2)) hx hb hr (fun t ht hW => ⟨⟨(-2), f_0, rfl, ⟨h30, (mm_wk mm_km2 (by decide))⟩, by rw [ht]; exact hP, hK.warm hW, hD⟩, hS.F ht⟩) hS.2.2 dX12_rate_47
    · have q12 := mm_neL (lo := 1) (mm_ne c11) mm_k0 mm_k0 (by decide) (by decide)
      exact mm_no q12 (by decide)
  · have q13 := mm_meetl (lo := 0) (hi := 2147483647) w7 rv1 (by decide)
    have q14 := mm_meet (lo := 0) (hi := 2147483647) (mm_l2x ev1 q13) (mm_top i_0) (by decide)
    have q15 := mm_meetl (lo := 0) (hi := 8) w8 rv4 (by decide)
    have q16 := mm_leLl w9 q13 q15
    have q17 := mm_meet (lo := 0) (hi := 8) (mm_l2x ev1 q16) q14 (by decide)
    have w18 : (i_0 : Int32).toInt < (i_21 : Int32).toInt := by have := (mm_i2lE ev1); have := (mm_i2lE ev3); have := tv4; have := w9; omega
    have q19 := mm_ltR (lo := 1) w18 q17 h2 (by decide)
    refine lv_if_eq (tgt := 45) hx hb dX12_rate_18 (by decide) (fun c20 => ?_) (fun c20 => ?_)
    · exact mm_eqN c20.symm mm_k0 mm_k1 (by decide)
    · refine lv_aload_n hx hb dX12_rate_21 rfl (lv_at hl 0 rfl) ?_
      refine va_get (D := G) (ci := 12) (v := .ref a_8) (C := RX12) (T := TX12) (N := 38) hx hb hts (mm_i inlX12) hown hK.1 hP 0 rfl rfl 18 (by decide) (mm_h hts mm_w150) (fun _ h9 => h9) rfl dX12_rate_22 ?_
      refine lv_iconst (v := 2) hx hb dX12_rate_25 (by decide) ?_
      refine lv_iload_n hx hb dX12_rate_26 rfl (lv_at hl 1 rfl) ?_
      refine lv_imul hx hb dX12_rate_27 ?_
      refine lv_topi (fun v21 ev21 => ?_)
      have rv21 : mm_rg v21 0 16 := mm_mul ev21 mm_k2 q17 (by decide) (by decide)
      have tv21 := mm_mulEc ev21 mm_k2 q17 (by decide) (k := 2) (by decide)
      refine va_iald hx hb hK.1 hP 2 1 rfl rfl (mm_in rv21 (by decide)) dX12_rate_28 ?_
      refine lv_topi (fun v22 ev22 => ?_)
      have rv22 : mm_rg v22 0 99 := mm_eqv ev22 (h30 _)
      refine lv_iconst (v := 1) hx hb dX12_rate_29 (by decide) ?_
      refine lv_icmp_gt (tgt := 45) hx hb dX12_rate_30 (by decide) (fun c23 => ?_) (fun c23 => ?_)
      · have q24 := mm_ltR (lo := 2) (mm_lt c23) mm_k1 rv22 (by decide)
        refine lv_bipush (v := (-2)) hx hb dX12_rate_45 (by decide) ?_
        subst hAe
        rw [hQ]
        exact W.iret (v := (-2)) hx hb hr (fun t ht hW => ⟨⟨(-2), f_0, rfl, ⟨h30, (mm_wk mm_km2 (by decide))⟩, by rw [ht]; exact hP, hK.warm hW, hD⟩, hS.F ht⟩) hS.2.2 dX12_rate_47
      · have q25 := mm_leL (mm_nlt c23) rv22 mm_k1
        refine lv_iload_n hx hb dX12_rate_33 rfl (lv_at hl 2 rfl) ?_
        obtain ⟨v26, ev26⟩ : ∃ y : Int64, y = i_1.toInt64 := ⟨_, rfl⟩
        refine lv_i2l hx hb dX12_rate_34 ev26.symm ?_
        have rv26 : mm_rl v26 (-2147483648) 2147483647 := mm_i2l ev26 (mm_top i_1)
        refine lv_lconst (v := 0) hx hb dX12_rate_35 (by decide) ?_
        refine lv_ldc2 (v := 99) hx hb hown (mm_h hts mm_w1566) dX12_rate_36 ?_
        refine mm_finir (va_runS (As := [.long v26, .long 0, .long 99]) (rest := []) ⟨hx, hb, hml, hown, hts⟩ (M7_X12_in l G cy H.size v26 99 ) (va_cwS 3 hts (mm_gS mm_w191 mm_w192 mm_w5 mm_w193) rfl rfl rfl hs_X12_in ⟨by rw [hRf]; exact Nat.le_of_ble_eq_true rfl, by rw [hRl]; exact Nat.le_of_ble_eq_true rfl⟩) (mm_preS hK hZ hS hA hP hD [] rfl rfl) rfl rfl hl.1 rfl (lv_room (Nat.le_of_ble_eq_true rfl)) dX12_rate_39 ⟨by rw [hRc]; exact Nat.le_of_ble_eq_true rfl, by rw [hRs]; exact Nat.le_of_ble_eq_true rfl⟩) hP hD hS hA [] rfl (fun _ => rfl) ?_
        clear hP hD hS
        clear H locs
        intro v27 _u H locs hw hP hD hS
        rcases hw with ⟨rfl, w28⟩ | ⟨rfl, w29, w30, w31, w32⟩
        · refine lv_if_ne (tgt := 48) hx hb dX12_rate_42 (by decide) (fun c33 => ?_) (fun c33 => ?_)
          · have q34 := mm_neL (lo := 1) (mm_ne c33) mm_k0 mm_k0 (by decide) (by decide)
            exact mm_no q34 (by decide)
          · refine lv_bipush (v := (-2)) hx hb dX12_rate_45 (by decide) ?_
            subst hAe
            rw [hQ]
            exact W.iret (v := (-2)) hx hb hr (fun t ht hW => ⟨⟨(-2), f_0, rfl, ⟨h30, (mm_wk mm_km2 (by decide))⟩, by rw [ht]; exact hP, hK.warm hW, hD⟩, hS.F ht⟩) hS.2.2 dX12_rate_47
        · have q35 := mm_meetl (lo := 0) (hi := 2147483647) w29 rv26 (by decide)
          have q36 := mm_meet (lo := 0) (hi := 2147483647) (mm_l2x ev26 q35) (mm_top i_1) (by decide)
          have q37 := mm_leLl w31 q35 mm_kl99
          have q38 := mm_meet (lo := 0) (hi := 99) (mm_l2x ev26 q37) q36 (by decide)
          refine lv_if_ne (tgt := 48) hx hb dX12_rate_42 (by decide) (fun c39 => ?_) (fun c39 => ?_)
          · refine lv_aload_n hx hb dX12_rate_48 rfl (lv_at hl 0 rfl) ?_
            refine va_get (D := G) (ci := 12) (v := .ref a_7) (C := RX12) (T := TX12) (N := 38) hx hb hts (mm_i inlX12) hown hK.1 hP 0 rfl rfl 17 (by decide) (mm_h hts mm_w149) (fun _ h9 => h9) rfl dX12_rate_49 ?_
            refine lv_iconst (v := 5) hx hb dX12_rate_52 (by decide) ?_
            refine va_iald hx hb hK.1 hP 1 1 rfl rfl (mm_in mm_k5 (by decide)) dX12_rate_53 ?_
            rw [show (mm_g [i_19, i_20, i_21, i_22, i_23, i_24, i_25, i_26, i_27, i_28, i_29, i_30, i_31, i_32, i_33, i_34, i_35, i_36, i_37, i_38, i_39, i_40, i_41, i_42, i_43, i_44, i_45, i_46, i_47, i_48]) (5 : Int32).toNatClampNeg = i_24 from mm_ge 5 (by decide) rfl]
            refine lv_if_le (tgt := 60) hx hb dX12_rate_54 (by decide) (fun c40 => ?_) (fun c40 => ?_)
            · have q41 := mm_leL (mm_le c40) h5 mm_k0
              refine lv_aload_n hx hb dX12_rate_60 rfl (lv_at hl 0 rfl) ?_
              refine va_get (D := G) (ci := 12) (v := .ref a_8) (C := RX12) (T := TX12) (N := 38) hx hb hts (mm_i inlX12) hown hK.1 hP 0 rfl rfl 18 (by decide) (mm_h hts mm_w150) (fun _ h9 => h9) rfl dX12_rate_61 ?_
              refine lv_iconst (v := 2) hx hb dX12_rate_64 (by decide) ?_
              refine lv_iload_n hx hb dX12_rate_65 rfl (lv_at hl 1 rfl) ?_
              refine lv_imul hx hb dX12_rate_66 ?_
              refine lv_topi (fun v42 ev42 => ?_)
              have rv42 : mm_rg v42 0 16 := mm_mul ev42 mm_k2 q17 (by decide) (by decide)
              have tv42 := mm_mulEc ev42 mm_k2 q17 (by decide) (k := 2) (by decide)
              refine lv_iconst (v := 1) hx hb dX12_rate_67 (by decide) ?_
              refine lv_iadd hx hb dX12_rate_68 ?_
              refine lv_topi (fun v43 ev43 => ?_)
              have rv43 : mm_rg v43 1 17 := mm_add ev43 rv42 mm_k1 (by decide) (by decide)
              have tv43 := mm_addEc ev43 rv42 mm_k1 (by decide) (k := 1) (by decide)
              refine va_iald hx hb hK.1 hP 2 1 rfl rfl (mm_in rv43 (by decide)) dX12_rate_69 ?_
              refine lv_topi (fun v44 ev44 => ?_)
              have rv44 : mm_rg v44 0 99 := mm_eqv ev44 (h30 _)
              refine lv_istore_n (lv' := [(3, .int v44), (0, .ref a_0), (1, .int i_0), (2, .int i_1)]) hx hb dX12_rate_70 rfl hl (by decide) rfl ?_
              clear hl
              clear ls
              intro ls hl
              refine lv_aload_n hx hb dX12_rate_71 rfl (lv_at hl 1 rfl) ?_
              refine va_get (D := G) (ci := 12) (v := .ref a_8) (C := RX12) (T := TX12) (N := 38) hx hb hts (mm_i inlX12) hown hK.1 hP 0 rfl rfl 18 (by decide) (mm_h hts mm_w150) (fun _ h9 => h9) rfl dX12_rate_72 ?_
              refine lv_iconst (v := 2) hx hb dX12_rate_75 (by decide) ?_
              refine lv_iload_n hx hb dX12_rate_76 rfl (lv_at hl 2 rfl) ?_
              refine lv_imul hx hb dX12_rate_77 ?_
              refine lv_topi (fun v45 ev45 => ?_)
              have rv45 : mm_rg v45 0 16 := mm_mul ev45 mm_k2 q17 (by decide) (by decide)
              have tv45 := mm_mulEc ev45 mm_k2 q17 (by decide) (k := 2) (by decide)
              refine lv_iconst (v := 1) hx hb dX12_rate_78 (by decide) ?_
              refine lv_iadd hx hb dX12_rate_79 ?_
              refine lv_topi (fun v46 ev46 => ?_)
              have rv46 : mm_rg v46 1 17 := mm_add ev46 rv45 mm_k1 (by decide) (by decide)
              have tv46 := mm_addEc ev46 rv45 mm_k1 (by decide) (k := 1) (by decide)
              refine lv_iload_n hx hb dX12_rate_80 rfl (lv_at hl 3 rfl) ?_
              refine va_iast hx hb hK.1 hP hD hS 2 1 rfl rfl (mm_in rv46 (by decide)) dX12_rate_81 ?_
              clear hP hD hS
              clear H locs
              obtain ⟨g47, eg47⟩ : ∃ z : Nat → Int32, z = upd f_0 v46.toNatClampNeg i_1 := ⟨_, rfl⟩
              rw [← eg47]
              intro H locs (hP : va_P G vwCl [(a_0, .inr (12, [.int 0, .ref a_1, .ref a_2, .ref a_3, .ref a_4, .ref a_5, .int i_3, .int i_4, .int i_5, .int i_6, .int i_7, .long j_0, .int i_8, .int i_9, .int i_10, .int i_11, .ref a_6, .ref a_7, .ref a_8, .ref a_9, .ref a_10, .ref a_11, .ref a_12, .ref a_13, .ref a_14, .ref a_15, .ref a_16, .ref a_17, .ref a_18, .int i_12, .int i_13, .int i_14, .int i_15, .int i_16, .int i_17, .ref a_19, .int i_18, .ref a_20])), (a_7, .inl (cy 1, 30, .inl (mm_g [i_19, i_20, i_21, i_22, i_23, i_24, i_25, i_26, i_27, i_28, i_29, i_30, i_31, i_32, i_33, i_34, i_35, i_36, i_37, i_38, i_39, i_40, i_41, i_42, i_43, i_44, i_45, i_46, i_47, i_48]))), (a_8, .inl (cy 1, 90, .inl g47))] H) (hD : va_D A [(a_0, .inr (12, [.int 0, .ref a_1, .ref a_2, .ref a_3, .ref a_4, .ref a_5, .int i_3, .int i_4, .int i_5, .int i_6, .int i_7, .long j_0, .int i_8, .int i_9, .int i_10, .int i_11, .ref a_6, .ref a_7, .ref a_8, .ref a_9, .ref a_10, .ref a_11, .ref a_12, .ref a_13, .ref a_14, .ref a_15, .ref a_16, .ref a_17, .ref a_18, .int i_12, .int i_13, .int i_14, .int i_15, .int i_16, .int i_17, .ref a_19, .int i_18, .ref a_20])), (a_7, .inl (cy 1, 30, .inl (mm_g [i_19, i_20, i_21, i_22, i_23, i_24, i_25, i_26, i_27, i_28, i_29, i_30, i_31, i_32, i_33, i_34, i_35, i_36, i_37, i_38, i_39, i_40, i_41, i_42, i_43, i_44, i_45, i_46, i_47, i_48]))), (a_8, .inl (cy 1, 90, .inl g47))]) hS
              have rg47 : mm_ar g47 0 99 := by rw [eg47]; exact mm_ar_upd (mm_ar_wk h30 (by decide)) (mm_wk q38 (by decide)) _
              refine lv_iload_n hx hb dX12_rate_82 rfl (lv_at hl 0 rfl) ?_
              subst hAe
              rw [hQ]
              exact W.iret (v := v44) hx hb hr (fun t ht hW => ⟨⟨v44, g47, rfl, ⟨rg47, (mm_wk rv44 (by decide))⟩, by rw [ht]; exact hP, hK.warm hW, hD⟩, hS.F ht⟩) hS.2.2 dX12_rate_83
            · have q48 := mm_ltR (lo := 1) (mm_nle c40) mm_k0 h5 (by decide)
              refine lv_bipush (v := (-5)) hx hb dX12_rate_57 (by decide) ?_
              subst hAe
              rw [hQ]
              exact W.iret (v := (-5)) hx hb hr (fun t ht hW => ⟨⟨(-5), f_0, rfl, ⟨h30, (mm_wk mm_km5 (by decide))⟩, by rw [ht]; exact hP, hK.warm hW, hD⟩, hS.F ht⟩) hS.2.2 dX12_rate_59
          · exact mm_eqN c39.symm mm_k0 mm_k1 (by decide)

set_option maxHeartbeats 4000000 in
set_option maxRecDepth 100000 in
theorem M322_X12_count (l : Launch) (G : va_G) (cy : Nat → ClassId) (sz : Nat) (a_0 : Nat) (i_0 : Int32) (i_1 : Int32) (a_1 : Nat) (a_2 : Nat) (a_3 : Nat) (a_4 : Nat) (a_5 : Nat) (i_2 : Int32) (i_3 : Int32) (i_4 : Int32) (i_5 : Int32) (i_6 : Int32) (j_0 : Int64) (i_7 : Int32) (i_8 : Int32) (i_9 : Int32) (i_10 : Int32) (a_6 : Nat) (a_7 : Nat) (a_8 : Nat) (a_9 : Nat) (a_10 : Nat) (a_11 : Nat) (a_12 : Nat) (a_13 : Nat) (a_14 : Nat) (a_15 : Nat) (a_16 : Nat) (a_17 : Nat) (a_18 : Nat) (i_11 : Int32) (i_12 : Int32) (i_13 : Int32) (i_14 : Int32) (i_15 : Int32) (i_16 : Int32) (a_19 : Nat) (i_17 : Int32) (a_20 : Nat) (f_0 : Nat → Int32) (i_18 : Int32) (i_19 : Int32) (i_20 : Int32) (i_21 : Int32) (i_22 : Int32) (i_23 : Int32) (i_24 : Int32) (i_25 : Int32) (i_26 : Int32) (i_27 : Int32) (i_28 : Int32) (i_29 : Int32) (i_30 : Int32) (i_31 : Int32) (i_32 : Int32) (i_33 : Int32) (i_34 : Int32) (i_35 : Int32) (i_36 : Int32) (i_37 : Int32) (i_38 : Int32) (i_39 : Int32) (i_40 : Int32) (i_41 : Int32) (i_42 : Int32) (i_43 : Int32) (i_44 : Int32) (i_45 : Int32) (i_46 : Int32) (i_47 : Int32) (i_48 : Int32) (i_49 : Int32) (i_50 : Int32) (i_51 : Int32) (i_52 : Int32) (f_1 : Nat → Int32) (h0 : mm_rg i_2 0 600) (h1 : mm_ar f_0 (-1) 3) (h2 : mm_rg i_18 0 601) (h3 : mm_rg i_19 0 601) (h4 : mm_rg i_20 0 601) (h5 : mm_rg i_21 0 601) (h6 : mm_rg i_22 0 601) (h7 : mm_rg i_23 0 10) (h8 : mm_rg i_24 0 99) (h9 : mm_rg i_25 0 9) (h10 : mm_rg i_26 0 3) (h11 : mm_rg i_27 0 6) (h12 : mm_rg i_28 0 30) (h13 : mm_rg i_29 0 10) (h14 : mm_rg i_30 0 99) (h15 : mm_rg i_31 0 9) (h16 : mm_rg i_32 0 3) (h17 : mm_rg i_33 0 6) (h18 : mm_rg i_34 0 30) (h19 : mm_rg i_35 0 10) (h20 : mm_rg i_36 0 99) (h21 : mm_rg i_37 0 9) (h22 : mm_rg i_38 0 3) (h23 : mm_rg i_39 0 6) (h24 : mm_rg i_40 0 30) (h25 : mm_rg i_41 0 10) (h26 : mm_rg i_42 0 99) (h27 : mm_rg i_43 0 9) (h28 : mm_rg i_44 0 3) (h29 : mm_rg i_45 0 6) (h30 : mm_rg i_46 0 30) (h31 : mm_rg i_47 0 10) (h32 : mm_rg i_48 0 99) (h33 : mm_rg i_49 0 9) (h34 : mm_rg i_50 0 3) (h35 : mm_rg i_51 0 6) (h36 : mm_rg i_52 0 30) (h37 : mm_ar f_1 0 7) (h38 : mm_tl i_18 i_26 i_27) (h39 : mm_tl i_19 i_32 i_33) (h40 : mm_tl i_20 i_38 i_39) (h41 : mm_tl i_21 i_44 i_45)  : mm_CI l yX12_count (mm_ws yX12_count cX12_count 4 (some .int)) ({ frames := 1, cells := 0, slots := 0, locals := 20 } : Room) G cy sz [(a_0, .inr (12, [.int i_1, .ref a_1, .ref a_2, .ref a_3, .ref a_4, .ref a_5, .int i_2, .int i_3, .int i_4, .int i_5, .int i_6, .long j_0, .int i_7, .int i_8, .int i_9, .int i_10, .ref a_6, .ref a_7, .ref a_8, .ref a_9, .ref a_10, .ref a_11, .ref a_12, .ref a_13, .ref a_14, .ref a_15, .ref a_16, .ref a_17, .ref a_18, .int i_11, .int i_12, .int i_13, .int i_14, .int i_15, .int i_16, .ref a_19, .int i_17, .ref a_20])), (a_1, .inl (cy 1, 4, .inl f_0)), (a_6, .inl (cy 1, 5, .inl (mm_g [i_18, i_19, i_20, i_21, i_22]))), (a_7, .inl (cy 1, 30, .inl (mm_g [i_23, i_24, i_25, i_26, i_27, i_28, i_29, i_30, i_31, i_32, i_33, i_34, i_35, i_36, i_37, i_38, i_39, i_40, i_41, i_42, i_43, i_44, i_45, i_46, i_47, i_48, i_49, i_50, i_51, i_52]))), (a_9, .inl (cy 1, 15, .inl f_1))] [.ref a_0, .int i_0] (fun u : Unit => [(a_0, .inr (12, [.int 0, .ref a_1, .ref a_2, .ref a_3, .ref a_4, .ref a_5, .int i_2, .int i_3, .int i_4, .int i_5, .int i_6, .long j_0, .int i_7, .int i_8, .int i_9, .int i_10, .ref a_6, .ref a_7, .ref a_8, .ref a_9, .ref a_10, .ref a_11, .ref a_12, .ref a_13, .ref a_14, .ref a_15, .ref a_16, .ref a_17, .ref a_18, .int i_11, .int i_12, .int i_13, .int i_14, .int i_15, .int i_16, .ref a_19, .int i_17, .ref a_20])), (a_1, .inl (cy 1, 4, .inl f_0)), (a_6, .inl (cy 1, 5, .inl (mm_g [i_18, i_19, i_20, i_21, i_22]))), (a_7, .inl (cy 1, 30, .inl (mm_g [i_23, i_24, i_25, i_26, i_27, i_28, i_29, i_30, i_31, i_32, i_33, i_34, i_35, i_36, i_37, i_38, i_39, i_40, i_41, i_42, i_43, i_44, i_45, i_46, i_47, i_48, i_49, i_50, i_51, i_52]))), (a_9, .inl (cy 1, 15, .inl f_1))]) (fun (r : Int32) (u : Unit) => mm_rg r (-1) 601) 0 0 := by
  refine mm_begin (lv := [(0, .ref a_0), (1, .int i_0)]) (by decide) (Nat.le_of_ble_eq_true rfl) rfl ?_
  intro p e s m below meth c A ls R args Q H locs hRe hQ hAe hx hb hr hlocks hml hown hnm hts hsz hA hS hP hK hD hZ hl
  have hRf : R.frames = 1 := by rw [hRe]
  have hRl : R.locals = 20 := by rw [hRe]
  have hRc : R.cells = 0 := by rw [hRe]
  have hRs : R.slots = 0 := by rw [hRe]
  refine lv_aload_n hx hb dX12_count_0 rfl (lv_at hl 0 rfl) ?_
  refine lv_iconst (v := 0) hx hb dX12_count_1 (by decide) ?_
  refine va_put (D := G) (ci := 12) (v := .int 0) (ty := tyX12 0) (C := RX12) (T := TX12) (N := 38) hx hb hts (mm_i inlX12) tyX12 tyX12_ok nmX12 hown hK.1 hP hD hS 0 rfl rfl 0 (by decide) (mm_h hts mm_w177) (fun _ h9 => h9) rfl (tyX12_ok 0 (by decide)) rfl rfl (Nat.le_of_ble_eq_true rfl) dX12_count_2 ?_
  clear hP hD hS
  clear H locs
  intro H locs (hP : va_P G vwCl [(a_0, .inr (12, [.int 0, .ref a_1, .ref a_2, .ref a_3, .ref a_4, .ref a_5, .int i_2, .int i_3, .int i_4, .int i_5, .int i_6, .long j_0, .int i_7, .int i_8, .int i_9, .int i_10, .ref a_6, .ref a_7, .ref a_8, .ref a_9, .ref a_10, .ref a_11, .ref a_12, .ref a_13, .ref a_14, .ref a_15, .ref a_16, .ref a_17, .ref a_18, .int i_11, .int i_12, .int i_13, .int i_14, .int i_15, .int i_16, .ref a_19, .int i_17, .ref a_20])), (a_1, .inl (cy 1, 4, .inl f_0)), (a_6, .inl (cy 1, 5, .inl (mm_g [i_18, i_19, i_20, i_21, i_22]))), (a_7, .inl (cy 1, 30, .inl (mm_g [i_23, i_24, i_25, i_26, i_27, i_28, i_29, i_30, i_31, i_32, i_33, i_34, i_35, i_36, i_37, i_38, i_39, i_40, i_41, i_42, i_43, i_44, i_45, i_46, i_47, i_48, i_49, i_50, i_51, i_52]))), (a_9, .inl (cy 1, 15, .inl f_1))] H) (hD : va_D A [(a_0, .inr (12, [.int 0, .ref a_1, .ref a_2, .ref a_3, .ref a_4, .ref a_5, .int i_2, .int i_3, .int i_4, .int i_5, .int i_6, .long j_0, .int i_7, .int i_8, .int i_9, .int i_10, .ref a_6, .ref a_7, .ref a_8, .ref a_9, .ref a_10, .ref a_11, .ref a_12, .ref a_13, .ref a_14, .ref a_15, .ref a_16, .ref a_17, .ref a_18, .int i_11, .int i_12, .int i_13, .int i_14, .int i_15, .int i_16, .ref a_19, .int i_17, .ref a_20])), (a_1, .inl (cy 1, 4, .inl f_0)), (a_6, .inl (cy 1, 5, .inl (mm_g [i_18, i_19, i_20, i_21, i_22]))), (a_7, .inl (cy 1, 30, .inl (mm_g [i_23, i_24, i_25, i_26, i_27, i_28, i_29, i_30, i_31, i_32, i_33, i_34, i_35, i_36, i_37, i_38, i_39, i_40, i_41, i_42, i_43, i_44, i_45, i_46, i_47, i_48, i_49, i_50, i_51, i_52]))), (a_9, .inl (cy 1, 15, .inl f_1))]) hS
  refine lv_iconst (v := 0) hx hb dX12_count_5 (by decide) ?_
  refine lv_istore_n (lv' := [(2, .int 0), (0, .ref a_0), (1, .int i_0)]) hx hb dX12_count_6 rfl hl (by decide) rfl ?_
  clear hl
  clear ls
  intro ls hl
  refine lv_iload_n hx hb dX12_count_7 rfl (lv_at hl 2 rfl) ?_
  rcases mm_out i_0 0 9 with c1 | c1 | c1
  · have q2 : mm_rg i_0 (-2147483648) (-1) := ⟨((mm_top i_0)).1, by omega⟩
    refine lv_tableOut (tgt := 176) hx hb dX12_count_8 (Or.inl c1) (by decide) ?_
    refine lv_iconst (v := (-1)) hx hb dX12_count_176 (by decide) ?_
    subst hAe
    rw [hQ]
    exact W.iret (v := (-1)) hx hb hr (fun t ht hW => ⟨⟨(-1), (), rfl, (mm_wk mm_km1 (by decide)), by rw [ht]; exact hP, hK.warm hW, hD⟩, hS.F ht⟩) hS.2.2 dX12_count_177
  · have q3 : mm_rg i_0 10 2147483647 := ⟨by omega, ((mm_top i_0)).2⟩
    refine lv_tableOut (tgt := 176) hx hb dX12_count_8 (Or.inr c1) (by decide) ?_
    refine lv_iconst (v := (-1)) hx hb dX12_count_176 (by decide) ?_
    subst hAe
    rw [hQ]
    exact W.iret (v := (-1)) hx hb hr (fun t ht hW => ⟨⟨(-1), (), rfl, (mm_wk mm_km1 (by decide)), by rw [ht]; exact hP, hK.warm hW, hD⟩, hS.F ht⟩) hS.2.2 dX12_count_177
  · have c4 := mm_cases10 c1
    rcases c4 with rfl | rfl | rfl | rfl | rfl | rfl | rfl | rfl | rfl | rfl
    · refine lv_tableIn (tgt := 64) hx hb dX12_count_8 (by decide) (by decide) rfl (by decide) ?_
      refine lv_aload_n hx hb dX12_count_64 rfl (lv_at hl 1 rfl) ?_
      refine va_get (D := G) (ci := 12) (v := .ref a_7) (C := RX12) (T := TX12) (N := 38) hx hb hts (mm_i inlX12) hown hK.1 hP 0 rfl rfl 17 (by decide) (mm_h hts mm_w149) (fun _ h9 => h9) rfl dX12_count_65 ?_
      refine lv_iconst (v := 0) hx hb dX12_count_68 (by decide) ?_
      refine va_iald hx hb hK.1 hP 3 1 rfl rfl (mm_in mm_k0 (by decide)) dX12_count_69 ?_
      rw [show (mm_g [i_23, i_24, i_25, i_26, i_27, i_28, i_29, i_30, i_31, i_32, i_33, i_34, i_35, i_36, i_37, i_38, i_39, i_40, i_41, i_42, i_43, i_44, i_45, i_46, i_47, i_48, i_49, i_50, i_51, i_52]) (0 : Int32).toNatClampNeg = i_23 from mm_ge 0 (by decide) rfl]
      subst hAe
      rw [hQ]
      exact W.iret (v := i_23) hx hb hr (fun t ht hW => ⟨⟨i_23, (), rfl, (mm_wk h7 (by decide)), by rw [ht]; exact hP, hK.warm hW, hD⟩, hS.F ht⟩) hS.2.2 dX12_count_70
    · refine lv_tableIn (tgt := 71) hx hb dX12_count_8 (by decide) (by decide) rfl (by decide) ?_
      refine lv_aload_n hx hb dX12_count_71 rfl (lv_at hl 1 rfl) ?_
      refine va_get (D := G) (ci := 12) (v := .ref a_7) (C := RX12) (T := TX12) (N := 38) hx hb hts (mm_i inlX12) hown hK.1 hP 0 rfl rfl 17 (by decide) (mm_h hts mm_w149) (fun _ h9 => h9) rfl dX12_count_72 ?_
      refine lv_iconst (v := 1) hx hb dX12_count_75 (by decide) ?_
      refine va_iald hx hb hK.1 hP 3 1 rfl rfl (mm_in mm_k1 (by decide)) dX12_count_76 ?_
      rw [show (mm_g [i_23, i_24, i_25, i_26, i_27, i_28, i_29, i_30, i_31, i_32, i_33, i_34, i_35, i_36, i_37, i_38, i_39, i_40, i_41, i_42, i_43, i_44, i_45, i_46, i_47, i_48, i_49, i_50, i_51, i_52]) (1 : Int32).toNatClampNeg = i_24 from mm_ge 1 (by decide) rfl]
      subst hAe
      rw [hQ]
      exact W.iret (v := i_24) hx hb hr (fun t ht hW => ⟨⟨i_24, (), rfl, (mm_wk h8 (by decide)), by rw [ht]; exact hP, hK.warm hW, hD⟩, hS.F ht⟩) hS.2.2 dX12_count_77
    · refine lv_tableIn (tgt := 78) hx hb dX12_count_8 (by decide) (by decide) rfl (by decide) ?_
      refine lv_aload_n hx hb dX12_count_78 rfl (lv_at hl 1 rfl) ?_
      refine mm_finir (va_runV (As := []) (rest := []) ⟨hx, hb, hml, hown, hts⟩ (M92_X12_senses l G cy H.size a_0 0 a_1 a_2 a_3 a_4 a_5 i_2 i_3 i_4 i_5 i_6 j_0 i_7 i_8 i_9 i_10 a_6 a_7 a_8 a_9 a_10 a_11 a_12 a_13 a_14 a_15 a_16 a_17 a_18 i_11 i_12 i_13 i_14 i_15 i_16 a_19 i_17 a_20 i_23 i_24 i_25 i_26 i_27 i_28 i_29 i_30 i_31 i_32 i_33 i_34 i_35 i_36 i_37 i_38 i_39 i_40 i_41 i_42 i_43 i_44 i_45 i_46 i_47 i_48 i_49 i_50 i_51 i_52 h7 h8 h9 h10 h11 h12 h13 h14 h15 h16 h17 h18 h19 h20 h21 h22 h23 h24 h25 h26 h27 h28 h29 h30 h31 h32 h33 h34 h35 h36) (cwV 0 hts (mm_gV mm_w588 mm_w589 mm_w590 mm_w5 mm_w591) rfl rfl rfl hd_X12_senses ⟨by rw [hRf]; exact Nat.le_of_ble_eq_true rfl, by rw [hRl]; exact Nat.le_of_ble_eq_true rfl⟩) (mm_preV hK hZ hS hA hP hD [0, 3] rfl rfl 0 rfl rfl rfl) rfl rfl hl.1 rfl (lv_room (Nat.le_of_ble_eq_true rfl)) dX12_count_79 ⟨by rw [hRc]; exact Nat.le_of_ble_eq_true rfl, by rw [hRs]; exact Nat.le_of_ble_eq_true rfl⟩) hP hD hS hA [0, 3] rfl (fun _ => rfl) ?_
      clear hP hD hS
      clear H locs
      intro v5 _u H locs hw hP hD hS
      subst hw
      subst hAe
      rw [hQ]
      exact W.iret (v := i_25) hx hb hr (fun t ht hW => ⟨⟨i_25, (), rfl, (mm_wk h9 (by decide)), by rw [ht]; exact hP, hK.warm hW, hD⟩, hS.F ht⟩) hS.2.2 dX12_count_82
    · refine lv_tableIn (tgt := 83) hx hb dX12_count_8 (by decide) (by decide) rfl (by decide) ?_
      refine lv_aload_n hx hb dX12_count_83 rfl (lv_at hl 1 rfl) ?_
      refine va_get (D := G) (ci := 12) (v := .ref a_7) (C := RX12) (T := TX12) (N := 38) hx hb hts (mm_i inlX12) hown hK.1 hP 0 rfl rfl 17 (by decide) (mm_h hts mm_w149) (fun _ h9 => h9) rfl dX12_count_84 ?_
      refine lv_iconst (v := 3) hx hb dX12_count_87 (by decide) ?_
      refine va_iald hx hb hK.1 hP 3 1 rfl rfl (mm_in mm_k3 (by decide)) dX12_count_88 ?_
      rw [show (mm_g [i_23, i_24, i_25, i_26, i_27, i_28, i_29, i_30, i_31, i_32, i_33, i_34, i_35, i_36, i_37, i_38, i_39, i_40, i_41, i_42, i_43, i_44, i_45, i_46, i_47, i_48, i_49, i_50, i_51, i_52]) (3 : Int32).toNatClampNeg = i_26 from mm_ge 3 (by decide) rfl]
      subst hAe
      rw [hQ]
      exact W.iret (v := i_26) hx hb hr (fun t ht hW => ⟨⟨i_26, (), rfl, (mm_wk h10 (by decide)), by rw [ht]; exact hP, hK.warm hW, hD⟩, hS.F ht⟩) hS.2.2 dX12_count_89
    · refine lv_tableIn (tgt := 90) hx hb dX12_count_8 (by decide) (by decide) rfl (by decide) ?_
      refine lv_iconst (v := 0) hx hb dX12_count_90 (by decide) ?_
      refine lv_istore_n (lv' := [(3, .int 0), (2, .int 0), (0, .ref a_0), (1, .int 4)]) hx hb dX12_count_91 rfl hl (by decide) rfl ?_
      clear hl
      clear ls
      intro ls hl
      refine lv_iload_n hx hb dX12_count_92 rfl (lv_at hl 0 rfl) ?_
      refine lv_aload_n hx hb dX12_count_93 rfl (lv_at hl 2 rfl) ?_
      refine va_get (D := G) (ci := 12) (v := .ref a_7) (C := RX12) (T := TX12) (N := 38) hx hb hts (mm_i inlX12) hown hK.1 hP 0 rfl rfl 17 (by decide) (mm_h hts mm_w149) (fun _ h9 => h9) rfl dX12_count_94 ?_
      refine lv_iconst (v := 3) hx hb dX12_count_97 (by decide) ?_
      refine va_iald hx hb hK.1 hP 3 1 rfl rfl (mm_in mm_k3 (by decide)) dX12_count_98 ?_
      rw [show (mm_g [i_23, i_24, i_25, i_26, i_27, i_28, i_29, i_30, i_31, i_32, i_33, i_34, i_35, i_36, i_37, i_38, i_39, i_40, i_41, i_42, i_43, i_44, i_45, i_46, i_47, i_48, i_49, i_50, i_51, i_52]) (3 : Int32).toNatClampNeg = i_26 from mm_ge 3 (by decide) rfl]
      refine lv_icmp_ge (tgt := 117) hx hb dX12_count_99 (by decide) (fun c6 => ?_) (fun c6 => ?_)
      · have q7 := mm_leL (mm_le c6) h10 mm_k0
        refine lv_iload_n hx hb dX12_count_117 rfl (lv_at hl 1 rfl) ?_
        subst hAe
        rw [hQ]
        exact W.iret (v := 0) hx hb hr (fun t ht hW => ⟨⟨0, (), rfl, (mm_wk mm_k0 (by decide)), by rw [ht]; exact hP, hK.warm hW, hD⟩, hS.F ht⟩) hS.2.2 dX12_count_118
      · have q8 := mm_ltR (lo := 1) (mm_nle c6) mm_k0 h10 (by decide)
        have q9 : mm_rg i_18 1 601 := mm_tl_3 h38 q8 h2 (by decide)
        refine lv_iload_n hx hb dX12_count_102 rfl (lv_at hl 1 rfl) ?_
        refine lv_aload_n hx hb dX12_count_103 rfl (lv_at hl 2 rfl) ?_
        refine va_get (D := G) (ci := 12) (v := .ref a_9) (C := RX12) (T := TX12) (N := 38) hx hb hts (mm_i inlX12) hown hK.1 hP 0 rfl rfl 19 (by decide) (mm_h hts mm_w151) (fun _ h9 => h9) rfl dX12_count_104 ?_
        refine lv_iload_n hx hb dX12_count_107 rfl (lv_at hl 0 rfl) ?_
        refine va_iald hx hb hK.1 hP 4 1 rfl rfl (mm_in mm_k0 (by decide)) dX12_count_108 ?_
        refine lv_topi (fun v10 ev10 => ?_)
        have rv10 : mm_rg v10 0 7 := mm_eqv ev10 (h37 _)
        refine lv_iadd hx hb dX12_count_109 ?_
        refine lv_topi (fun v11 ev11 => ?_)
        have rv11 : mm_rg v11 0 7 := mm_add ev11 mm_k0 rv10 (by decide) (by decide)
        have tv11 := mm_addEd ev11 mm_k0 rv10 (by decide) (k := 0) (by decide)
        refine lv_istore_n (lv' := [(2, .int v11), (3, .int 0), (0, .ref a_0), (1, .int 4)]) hx hb dX12_count_110 rfl hl (by decide) rfl ?_
        clear hl
        clear ls
        intro ls hl
        refine lv_iinc (v := 1) (lv' := [(3, .int 1), (2, .int v11), (0, .ref a_0), (1, .int 4)]) hx hb dX12_count_111 hl (k := 1) rfl (by decide) (by decide) rfl ?_
        clear hl
        clear ls
        intro ls hl
        refine lv_goto (tgt := 92) hx hb dX12_count_114 (by decide) ?_
        refine lv_iload_n hx hb dX12_count_92 rfl (lv_at hl 0 rfl) ?_
        refine lv_aload_n hx hb dX12_count_93 rfl (lv_at hl 2 rfl) ?_
        refine va_get (D := G) (ci := 12) (v := .ref a_7) (C := RX12) (T := TX12) (N := 38) hx hb hts (mm_i inlX12) hown hK.1 hP 0 rfl rfl 17 (by decide) (mm_h hts mm_w149) (fun _ h9 => h9) rfl dX12_count_94 ?_
        refine lv_iconst (v := 3) hx hb dX12_count_97 (by decide) ?_
        refine va_iald hx hb hK.1 hP 3 1 rfl rfl (mm_in mm_k3 (by decide)) dX12_count_98 ?_
        rw [show (mm_g [i_23, i_24, i_25, i_26, i_27, i_28, i_29, i_30, i_31, i_32, i_33, i_34, i_35, i_36, i_37, i_38, i_39, i_40, i_41, i_42, i_43, i_44, i_45, i_46, i_47, i_48, i_49, i_50, i_51, i_52]) (3 : Int32).toNatClampNeg = i_26 from mm_ge 3 (by decide) rfl]
        refine lv_icmp_ge (tgt := 117) hx hb dX12_count_99 (by decide) (fun c12 => ?_) (fun c12 => ?_)
        · have q13 := mm_leL (mm_le c12) q8 mm_k1
          refine lv_iload_n hx hb dX12_count_117 rfl (lv_at hl 1 rfl) ?_
          subst hAe
          rw [hQ]
          exact W.iret (v := v11) hx hb hr (fun t ht hW => ⟨⟨v11, (), rfl, (mm_wk rv11 (by decide)), by rw [ht]; exact hP, hK.warm hW, hD⟩, hS.F ht⟩) hS.2.2 dX12_count_118
        · have q14 := mm_ltR (lo := 2) (mm_nle c12) mm_k1 q8 (by decide)
          refine lv_iload_n hx hb dX12_count_102 rfl (lv_at hl 1 rfl) ?_
          refine lv_aload_n hx hb dX12_count_103 rfl (lv_at hl 2 rfl) ?_
          refine va_get (D := G) (ci := 12) (v := .ref a_9) (C := RX12) (T := TX12) (N := 38) hx hb hts (mm_i inlX12) hown hK.1 hP 0 rfl rfl 19 (by decide) (mm_h hts mm_w151) (fun _ h9 => h9) rfl dX12_count_104 ?_
          refine lv_iload_n hx hb dX12_count_107 rfl (lv_at hl 0 rfl) ?_
          refine va_iald hx hb hK.1 hP 4 1 rfl rfl (mm_in mm_k1 (by decide)) dX12_count_108 ?_
          refine lv_topi (fun v15 ev15 => ?_)
          have rv15 : mm_rg v15 0 7 := mm_eqv ev15 (h37 _)
          refine lv_iadd hx hb dX12_count_109 ?_
          refine lv_topi (fun v16 ev16 => ?_)
          have rv16 : mm_rg v16 0 14 := mm_add ev16 rv11 rv15 (by decide) (by decide)
          have tv16 := mm_addE ev16 rv11 rv15 (by decide)
          refine lv_istore_n (lv' := [(2, .int v16), (3, .int 1), (0, .ref a_0), (1, .int 4)]) hx hb dX12_count_110 rfl hl (by decide) rfl ?_
          clear hl
          clear ls
          intro ls hl
          refine lv_iinc (v := 2) (lv' := [(3, .int 2), (2, .int v16), (0, .ref a_0), (1, .int 4)]) hx hb dX12_count_111 hl (k := 1) rfl (by decide) (by decide) rfl ?_
          clear hl
          clear ls
          intro ls hl
          refine lv_goto (tgt := 92) hx hb dX12_count_114 (by decide) ?_
          refine lv_iload_n hx hb dX12_count_92 rfl (lv_at hl 0 rfl) ?_
          refine lv_aload_n hx hb dX12_count_93 rfl (lv_at hl 2 rfl) ?_
          refine va_get (D := G) (ci := 12) (v := .ref a_7) (C := RX12) (T := TX12) (N := 38) hx hb hts (mm_i inlX12) hown hK.1 hP 0 rfl rfl 17 (by decide) (mm_h hts mm_w149) (fun _ h9 => h9) rfl dX12_count_94 ?_
          refine lv_iconst (v := 3) hx hb dX12_count_97 (by decide) ?_
          refine va_iald hx hb hK.1 hP 3 1 rfl rfl (mm_in mm_k3 (by decide)) dX12_count_98 ?_
          rw [show (mm_g [i_23, i_24, i_25, i_26, i_27, i_28, i_29, i_30, i_31, i_32, i_33, i_34, i_35, i_36, i_37, i_38, i_39, i_40, i_41, i_42, i_43, i_44, i_45, i_46, i_47, i_48, i_49, i_50, i_51, i_52]) (3 : Int32).toNatClampNeg = i_26 from mm_ge 3 (by decide) rfl]
          refine lv_icmp_ge (tgt := 117) hx hb dX12_count_99 (by decide) (fun c17 => ?_) (fun c17 => ?_)
          · have q18 := mm_leL (mm_le c17) q14 mm_k2
            refine lv_iload_n hx hb dX12_count_117 rfl (lv_at hl 1 rfl) ?_
            subst hAe
            rw [hQ]
            exact W.iret (v := v16) hx hb hr (fun t ht hW => ⟨⟨v16, (), rfl, (mm_wk rv16 (by decide)), by rw [ht]; exact hP, hK.warm hW, hD⟩, hS.F ht⟩) hS.2.2 dX12_count_118
          · have q19 := mm_ltR (lo := 3) (mm_nle c17) mm_k2 q14 (by decide)
            refine lv_iload_n hx hb dX12_count_102 rfl (lv_at hl 1 rfl) ?_
            refine lv_aload_n hx hb dX12_count_103 rfl (lv_at hl 2 rfl) ?_
            refine va_get (D := G) (ci := 12) (v := .ref a_9) (C := RX12) (T := TX12) (N := 38) hx hb hts (mm_i inlX12) hown hK.1 hP 0 rfl rfl 19 (by decide) (mm_h hts mm_w151) (fun _ h9 => h9) rfl dX12_count_104 ?_
            refine lv_iload_n hx hb dX12_count_107 rfl (lv_at hl 0 rfl) ?_
            refine va_iald hx hb hK.1 hP 4 1 rfl rfl (mm_in mm_k2 (by decide)) dX12_count_108 ?_
            refine lv_topi (fun v20 ev20 => ?_)
            have rv20 : mm_rg v20 0 7 := mm_eqv ev20 (h37 _)
            refine lv_iadd hx hb dX12_count_109 ?_
            refine lv_topi (fun v21 ev21 => ?_)
            have rv21 : mm_rg v21 0 21 := mm_add ev21 rv16 rv20 (by decide) (by decide)
            have tv21 := mm_addE ev21 rv16 rv20 (by decide)
            refine lv_istore_n (lv' := [(2, .int v21), (3, .int 2), (0, .ref a_0), (1, .int 4)]) hx hb dX12_count_110 rfl hl (by decide) rfl ?_
            clear hl
            clear ls
            intro ls hl
            refine lv_iinc (v := 3) (lv' := [(3, .int 3), (2, .int v21), (0, .ref a_0), (1, .int 4)]) hx hb dX12_count_111 hl (k := 1) rfl (by decide) (by decide) rfl ?_
            clear hl
            clear ls
            intro ls hl
            refine lv_goto (tgt := 92) hx hb dX12_count_114 (by decide) ?_
            refine lv_iload_n hx hb dX12_count_92 rfl (lv_at hl 0 rfl) ?_
            refine lv_aload_n hx hb dX12_count_93 rfl (lv_at hl 2 rfl) ?_
            refine va_get (D := G) (ci := 12) (v := .ref a_7) (C := RX12) (T := TX12) (N := 38) hx hb hts (mm_i inlX12) hown hK.1 hP 0 rfl rfl 17 (by decide) (mm_h hts mm_w149) (fun _ h9 => h9) rfl dX12_count_94 ?_
            refine lv_iconst (v := 3) hx hb dX12_count_97 (by decide) ?_
            refine va_iald hx hb hK.1 hP 3 1 rfl rfl (mm_in mm_k3 (by decide)) dX12_count_98 ?_
            rw [show (mm_g [i_23, i_24, i_25, i_26, i_27, i_28, i_29, i_30, i_31, i_32, i_33, i_34, i_35, i_36, i_37, i_38, i_39, i_40, i_41, i_42, i_43, i_44, i_45, i_46, i_47, i_48, i_49, i_50, i_51, i_52]) (3 : Int32).toNatClampNeg = i_26 from mm_ge 3 (by decide) rfl]
            refine lv_icmp_ge (tgt := 117) hx hb dX12_count_99 (by decide) (fun c22 => ?_) (fun c22 => ?_)
            · refine lv_iload_n hx hb dX12_count_117 rfl (lv_at hl 1 rfl) ?_
              subst hAe
              rw [hQ]
              exact W.iret (v := v21) hx hb hr (fun t ht hW => ⟨⟨v21, (), rfl, (mm_wk rv21 (by decide)), by rw [ht]; exact hP, hK.warm hW, hD⟩, hS.F ht⟩) hS.2.2 dX12_count_118
            · have q23 := mm_ltL (h := 2) (mm_nle c22) mm_k3 q19 (by decide)
              exact mm_no q23 (by decide)
    · refine lv_tableIn (tgt := 119) hx hb dX12_count_8 (by decide) (by decide) rfl (by decide) ?_
      refine lv_aload_n hx hb dX12_count_119 rfl (lv_at hl 1 rfl) ?_
      refine mm_finir (va_runV (As := []) (rest := []) ⟨hx, hb, hml, hown, hts⟩ (M95_X12_texts l G cy H.size a_0 0 a_1 a_2 a_3 a_4 a_5 i_2 i_3 i_4 i_5 i_6 j_0 i_7 i_8 i_9 i_10 a_6 a_7 a_8 a_9 a_10 a_11 a_12 a_13 a_14 a_15 a_16 a_17 a_18 i_11 i_12 i_13 i_14 i_15 i_16 a_19 i_17 a_20 i_23 i_24 i_25 i_26 i_27 i_28 i_29 i_30 i_31 i_32 i_33 i_34 i_35 i_36 i_37 i_38 i_39 i_40 i_41 i_42 i_43 i_44 i_45 i_46 i_47 i_48 i_49 i_50 i_51 i_52 h7 h8 h9 h10 h11 h12 h13 h14 h15 h16 h17 h18 h19 h20 h21 h22 h23 h24 h25 h26 h27 h28 h29 h30 h31 h32 h33 h34 h35 h36) (cwV 0 hts (mm_gV mm_w617 mm_w618 mm_w619 mm_w5 mm_w620) rfl rfl rfl hd_X12_texts ⟨by rw [hRf]; exact Nat.le_of_ble_eq_true rfl, by rw [hRl]; exact Nat.le_of_ble_eq_true rfl⟩) (mm_preV hK hZ hS hA hP hD [0, 3] rfl rfl 0 rfl rfl rfl) rfl rfl hl.1 rfl (lv_room (Nat.le_of_ble_eq_true rfl)) dX12_count_120 ⟨by rw [hRc]; exact Nat.le_of_ble_eq_true rfl, by rw [hRs]; exact Nat.le_of_ble_eq_true rfl⟩) hP hD hS hA [0, 3] rfl (fun _ => rfl) ?_
      clear hP hD hS
      clear H locs
      intro v24 _u H locs hw hP hD hS
      subst hw
      subst hAe
      rw [hQ]
      exact W.iret (v := i_27) hx hb hr (fun t ht hW => ⟨⟨i_27, (), rfl, (mm_wk h11 (by decide)), by rw [ht]; exact hP, hK.warm hW, hD⟩, hS.F ht⟩) hS.2.2 dX12_count_123
    · refine lv_tableIn (tgt := 124) hx hb dX12_count_8 (by decide) (by decide) rfl (by decide) ?_
      refine lv_aload_n hx hb dX12_count_124 rfl (lv_at hl 1 rfl) ?_
      refine va_get (D := G) (ci := 12) (v := .ref a_7) (C := RX12) (T := TX12) (N := 38) hx hb hts (mm_i inlX12) hown hK.1 hP 0 rfl rfl 17 (by decide) (mm_h hts mm_w149) (fun _ h9 => h9) rfl dX12_count_125 ?_
      refine lv_iconst (v := 5) hx hb dX12_count_128 (by decide) ?_
      refine va_iald hx hb hK.1 hP 3 1 rfl rfl (mm_in mm_k5 (by decide)) dX12_count_129 ?_
      rw [show (mm_g [i_23, i_24, i_25, i_26, i_27, i_28, i_29, i_30, i_31, i_32, i_33, i_34, i_35, i_36, i_37, i_38, i_39, i_40, i_41, i_42, i_43, i_44, i_45, i_46, i_47, i_48, i_49, i_50, i_51, i_52]) (5 : Int32).toNatClampNeg = i_28 from mm_ge 5 (by decide) rfl]
      subst hAe
      rw [hQ]
      exact W.iret (v := i_28) hx hb hr (fun t ht hW => ⟨⟨i_28, (), rfl, (mm_wk h12 (by decide)), by rw [ht]; exact hP, hK.warm hW, hD⟩, hS.F ht⟩) hS.2.2 dX12_count_130
    · refine lv_tableIn (tgt := 131) hx hb dX12_count_8 (by decide) (by decide) rfl (by decide) ?_
      refine lv_aload_n hx hb dX12_count_131 rfl (lv_at hl 1 rfl) ?_
      refine va_get (D := G) (ci := 12) (v := .ref a_6) (C := RX12) (T := TX12) (N := 38) hx hb hts (mm_i inlX12) hown hK.1 hP 0 rfl rfl 16 (by decide) (mm_h hts mm_w148) (fun _ h9 => h9) rfl dX12_count_132 ?_
      refine lv_iconst (v := 0) hx hb dX12_count_135 (by decide) ?_
      refine va_iald hx hb hK.1 hP 2 1 rfl rfl (mm_in mm_k0 (by decide)) dX12_count_136 ?_
      rw [show (mm_g [i_18, i_19, i_20, i_21, i_22]) (0 : Int32).toNatClampNeg = i_18 from mm_ge 0 (by decide) rfl]
      subst hAe
      rw [hQ]
      exact W.iret (v := i_18) hx hb hr (fun t ht hW => ⟨⟨i_18, (), rfl, (mm_wk h2 (by decide)), by rw [ht]; exact hP, hK.warm hW, hD⟩, hS.F ht⟩) hS.2.2 dX12_count_137
    · refine lv_tableIn (tgt := 138) hx hb dX12_count_8 (by decide) (by decide) rfl (by decide) ?_
      refine lv_aload_n hx hb dX12_count_138 rfl (lv_at hl 1 rfl) ?_
      refine va_get (D := G) (ci := 12) (v := .int i_2) (C := RX12) (T := TX12) (N := 38) hx hb hts (mm_i inlX12) hown hK.1 hP 0 rfl rfl 6 (by decide) (mm_h hts mm_w178) (fun _ h9 => h9) rfl dX12_count_139 ?_
      subst hAe
      rw [hQ]
      exact W.iret (v := i_2) hx hb hr (fun t ht hW => ⟨⟨i_2, (), rfl, (mm_wk h0 (by decide)), by rw [ht]; exact hP, hK.warm hW, hD⟩, hS.F ht⟩) hS.2.2 dX12_count_142
    · refine lv_tableIn (tgt := 143) hx hb dX12_count_8 (by decide) (by decide) rfl (by decide) ?_
      refine lv_iconst (v := 0) hx hb dX12_count_143 (by decide) ?_
      refine lv_istore_n (lv' := [(3, .int 0), (2, .int 0), (0, .ref a_0), (1, .int 9)]) hx hb dX12_count_144 rfl hl (by decide) rfl ?_
      clear hl
      clear ls
      intro ls hl
      refine lv_iload_n hx hb dX12_count_145 rfl (lv_at hl 0 rfl) ?_
      refine lv_iconst (v := 4) hx hb dX12_count_146 (by decide) ?_
      refine lv_icmp_ge (tgt := 174) hx hb dX12_count_147 (by decide) (fun c25 => ?_) (fun c25 => ?_)
      · have q26 := mm_leL (mm_le c25) mm_k4 mm_k0
        exact mm_no q26 (by decide)
      · refine lv_iload_n hx hb dX12_count_150 rfl (lv_at hl 1 rfl) ?_
        refine lv_aload_n hx hb dX12_count_151 rfl (lv_at hl 2 rfl) ?_
        refine va_get (D := G) (ci := 12) (v := .ref a_1) (C := RX12) (T := TX12) (N := 38) hx hb hts (mm_i inlX12) hown hK.1 hP 0 rfl rfl 1 (by decide) (mm_h hts mm_w142) (fun _ h9 => h9) rfl dX12_count_152 ?_
        refine lv_iload_n hx hb dX12_count_155 rfl (lv_at hl 0 rfl) ?_
        refine va_iald hx hb hK.1 hP 1 1 rfl rfl (mm_in mm_k0 (by decide)) dX12_count_156 ?_
        refine lv_topi (fun v27 ev27 => ?_)
        have rv27 : mm_rg v27 (-1) 3 := mm_eqv ev27 (h1 _)
        refine lv_iconst (v := (-1)) hx hb dX12_count_157 (by decide) ?_
        refine lv_icmp_ne (tgt := 165) hx hb dX12_count_158 (by decide) (fun c28 => ?_) (fun c28 => ?_)
        · have q29 := mm_neL (lo := 0) (mm_ne c28) rv27 mm_km1 (by decide) (by decide)
          refine lv_iconst (v := 1) hx hb dX12_count_165 (by decide) ?_
          refine lv_iadd hx hb dX12_count_166 ?_
          refine lv_topi (fun v30 ev30 => ?_)
          obtain rfl : v30 = 1 := ev30.trans (by decide)
          refine lv_istore_n (lv' := [(2, .int 1), (3, .int 0), (0, .ref a_0), (1, .int 9)]) hx hb dX12_count_167 rfl hl (by decide) rfl ?_
          clear hl
          clear ls
          intro ls hl
          refine lv_iinc (v := 1) (lv' := [(3, .int 1), (2, .int 1), (0, .ref a_0), (1, .int 9)]) hx hb dX12_count_168 hl (k := 1) rfl (by decide) (by decide) rfl ?_
          clear hl
          clear ls
          intro ls hl
          refine lv_goto (tgt := 145) hx hb dX12_count_171 (by decide) ?_
          refine lv_iload_n hx hb dX12_count_145 rfl (lv_at hl 0 rfl) ?_
          refine lv_iconst (v := 4) hx hb dX12_count_146 (by decide) ?_
          refine lv_icmp_ge (tgt := 174) hx hb dX12_count_147 (by decide) (fun c31 => ?_) (fun c31 => ?_)
          · have q32 := mm_leL (mm_le c31) mm_k4 mm_k1
            exact mm_no q32 (by decide)
          · refine lv_iload_n hx hb dX12_count_150 rfl (lv_at hl 1 rfl) ?_
            refine lv_aload_n hx hb dX12_count_151 rfl (lv_at hl 2 rfl) ?_
            refine va_get (D := G) (ci := 12) (v := .ref a_1) (C := RX12) (T := TX12) (N := 38) hx hb hts (mm_i inlX12) hown hK.1 hP 0 rfl rfl 1 (by decide) (mm_h hts mm_w142) (fun _ h9 => h9) rfl dX12_count_152 ?_
            refine lv_iload_n hx hb dX12_count_155 rfl (lv_at hl 0 rfl) ?_
            refine va_iald hx hb hK.1 hP 1 1 rfl rfl (mm_in mm_k1 (by decide)) dX12_count_156 ?_
            refine lv_topi (fun v33 ev33 => ?_)
            have rv33 : mm_rg v33 (-1) 3 := mm_eqv ev33 (h1 _)
            refine lv_iconst (v := (-1)) hx hb dX12_count_157 (by decide) ?_
            refine lv_icmp_ne (tgt := 165) hx hb dX12_count_158 (by decide) (fun c34 => ?_) (fun c34 => ?_)
            · have q35 := mm_neL (lo := 0) (mm_ne c34) rv33 mm_km1 (by decide) (by decide)
              refine lv_iconst (v := 1) hx hb dX12_count_165 (by decide) ?_
              refine lv_iadd hx hb dX12_count_166 ?_
              refine lv_topi (fun v36 ev36 => ?_)
              obtain rfl : v36 = 2 := ev36.trans (by decide)
              refine lv_istore_n (lv' := [(2, .int 2), (3, .int 1), (0, .ref a_0), (1, .int 9)]) hx hb dX12_count_167 rfl hl (by decide) rfl ?_
              clear hl
              clear ls
              intro ls hl
              refine lv_iinc (v := 2) (lv' := [(3, .int 2), (2, .int 2), (0, .ref a_0), (1, .int 9)]) hx hb dX12_count_168 hl (k := 1) rfl (by decide) (by decide) rfl ?_
              clear hl
              clear ls
              intro ls hl
              refine lv_goto (tgt := 145) hx hb dX12_count_171 (by decide) ?_
              refine lv_iload_n hx hb dX12_count_145 rfl (lv_at hl 0 rfl) ?_
              refine lv_iconst (v := 4) hx hb dX12_count_146 (by decide) ?_
              refine lv_icmp_ge (tgt := 174) hx hb dX12_count_147 (by decide) (fun c37 => ?_) (fun c37 => ?_)
              · have q38 := mm_leL (mm_le c37) mm_k4 mm_k2
                exact mm_no q38 (by decide)
              · refine lv_iload_n hx hb dX12_count_150 rfl (lv_at hl 1 rfl) ?_
                refine lv_aload_n hx hb dX12_count_151 rfl (lv_at hl 2 rfl) ?_
                refine va_get (D := G) (ci := 12) (v := .ref a_1) (C := RX12) (T := TX12) (N := 38) hx hb hts (mm_i inlX12) hown hK.1 hP 0 rfl rfl 1 (by decide) (mm_h hts mm_w142) (fun _ h9 => h9) rfl dX12_count_152 ?_
                refine lv_iload_n hx hb dX12_count_155 rfl (lv_at hl 0 rfl) ?_
                refine va_iald hx hb hK.1 hP 1 1 rfl rfl (mm_in mm_k2 (by decide)) dX12_count_156 ?_
                refine lv_topi (fun v39 ev39 => ?_)
                have rv39 : mm_rg v39 (-1) 3 := mm_eqv ev39 (h1 _)
                refine lv_iconst (v := (-1)) hx hb dX12_count_157 (by decide) ?_
                refine lv_icmp_ne (tgt := 165) hx hb dX12_count_158 (by decide) (fun c40 => ?_) (fun c40 => ?_)
                · have q41 := mm_neL (lo := 0) (mm_ne c40) rv39 mm_km1 (by decide) (by decide)
                  refine lv_iconst (v := 1) hx hb dX12_count_165 (by decide) ?_
                  refine lv_iadd hx hb dX12_count_166 ?_
                  refine lv_topi (fun v42 ev42 => ?_)
                  obtain rfl : v42 = 3 := ev42.trans (by decide)
                  refine lv_istore_n (lv' := [(2, .int 3), (3, .int 2), (0, .ref a_0), (1, .int 9)]) hx hb dX12_count_167 rfl hl (by decide) rfl ?_
                  clear hl
                  clear ls
                  intro ls hl
                  refine lv_iinc (v := 3) (lv' := [(3, .int 3), (2, .int 3), (0, .ref a_0), (1, .int 9)]) hx hb dX12_count_168 hl (k := 1) rfl (by decide) (by decide) rfl ?_
                  clear hl
                  clear ls
                  intro ls hl
                  refine lv_goto (tgt := 145) hx hb dX12_count_171 (by decide) ?_
                  refine lv_iload_n hx hb dX12_count_145 rfl (lv_at hl 0 rfl) ?_
                  refine lv_iconst (v := 4) hx hb dX12_count_146 (by decide) ?_
                  refine lv_icmp_ge (tgt := 174) hx hb dX12_count_147 (by decide) (fun c43 => ?_) (fun c43 => ?_)
                  · have q44 := mm_leL (mm_le c43) mm_k4 mm_k3
                    exact mm_no q44 (by decide)
                  · refine lv_iload_n hx hb dX12_count_150 rfl (lv_at hl 1 rfl) ?_
                    refine lv_aload_n hx hb dX12_count_151 rfl (lv_at hl 2 rfl) ?_
                    refine va_get (D := G) (ci := 12) (v := .ref a_1) (C := RX12) (T := TX12) (N := 38) hx hb hts (mm_i inlX12) hown hK.1 hP 0 rfl rfl 1 (by decide) (mm_h hts mm_w142) (fun _ h9 => h9) rfl dX12_count_152 ?_
                    refine lv_iload_n hx hb dX12_count_155 rfl (lv_at hl 0 rfl) ?_
                    refine va_iald hx hb hK.1 hP 1 1 rfl rfl (mm_in mm_k3 (by decide)) dX12_count_156 ?_
                    refine lv_topi (fun v45 ev45 => ?_)
                    have rv45 : mm_rg v45 (-1) 3 := mm_eqv ev45 (h1 _)
                    refine lv_iconst (v := (-1)) hx hb dX12_count_157 (by decide) ?_
                    refine lv_icmp_ne (tgt := 165) hx hb dX12_count_158 (by decide) (fun c46 => ?_) (fun c46 => ?_)
                    · have q47 := mm_neL (lo := 0) (mm_ne c46) rv45 mm_km1 (by decide) (by decide)
                      refine lv_iconst (v := 1) hx hb dX12_count_165 (by decide) ?_
                      refine lv_iadd hx hb dX12_count_166 ?_
                      refine lv_topi (fun v48 ev48 => ?_)
                      obtain rfl : v48 = 4 := ev48.trans (by decide)
                      refine lv_istore_n (lv' := [(2, .int 4), (3, .int 3), (0, .ref a_0), (1, .int 9)]) hx hb dX12_count_167 rfl hl (by decide) rfl ?_
                      clear hl
                      clear ls
                      intro ls hl
                      refine lv_iinc (v := 4) (lv' := [(3, .int 4), (2, .int 4), (0, .ref a_0), (1, .int 9)]) hx hb dX12_count_168 hl (k := 1) rfl (by decide) (by decide) rfl ?_
                      clear hl
                      clear ls
                      intro ls hl
                      refine lv_goto (tgt := 145) hx hb dX12_count_171 (by decide) ?_
                      refine lv_iload_n hx hb dX12_count_145 rfl (lv_at hl 0 rfl) ?_
                      refine lv_iconst (v := 4) hx hb dX12_count_146 (by decide) ?_
                      refine lv_icmp_ge (tgt := 174) hx hb dX12_count_147 (by decide) (fun c49 => ?_) (fun c49 => ?_)
                      · refine lv_iload_n hx hb dX12_count_174 rfl (lv_at hl 1 rfl) ?_
                        subst hAe
                        rw [hQ]
                        exact W.iret (v := 4) hx hb hr (fun t ht hW => ⟨⟨4, (), rfl, (mm_wk mm_k4 (by decide)), by rw [ht]; exact hP, hK.warm hW, hD⟩, hS.F ht⟩) hS.2.2 dX12_count_175
                      · have q50 := mm_ltL (h := 3) (mm_nle c49) mm_k4 mm_k4 (by decide)
                        exact mm_no q50 (by decide)
                    · have q51 := mm_eqI (lo := (-1)) (hi := (-1)) c46 rv45 mm_km1 (by decide)
                      refine lv_iconst (v := 0) hx hb dX12_count_161 (by decide) ?_
                      refine lv_goto (tgt := 166) hx hb dX12_count_162 (by decide) ?_
                      refine lv_iadd hx hb dX12_count_166 ?_
                      refine lv_topi (fun v52 ev52 => ?_)
                      obtain rfl : v52 = 3 := ev52.trans (by decide)
                      refine lv_istore_n (lv' := [(2, .int 3), (3, .int 3), (0, .ref a_0), (1, .int 9)]) hx hb dX12_count_167 rfl hl (by decide) rfl ?_
                      clear hl
                      clear ls
                      intro ls hl
                      refine lv_iinc (v := 4) (lv' := [(3, .int 4), (2, .int 3), (0, .ref a_0), (1, .int 9)]) hx hb dX12_count_168 hl (k := 1) rfl (by decide) (by decide) rfl ?_
                      clear hl
                      clear ls
                      intro ls hl
                      refine lv_goto (tgt := 145) hx hb dX12_count_171 (by decide) ?_
                      refine lv_iload_n hx hb dX12_count_145 rfl (lv_at hl 0 rfl) ?_
                      refine lv_iconst (v := 4) hx hb dX12_count_146 (by decide) ?_
                      refine lv_icmp_ge (tgt := 174) hx hb dX12_count_147 (by decide) (fun c53 => ?_) (fun c53 => ?_)
                      · refine lv_iload_n hx hb dX12_count_174 rfl (lv_at hl 1 rfl) ?_
                        subst hAe
                        rw [hQ]
                        exact W.iret (v := 3) hx hb hr (fun t ht hW => ⟨⟨3, (), rfl, (mm_wk mm_k3 (by decide)), by rw [ht]; exact hP, hK.warm hW, hD⟩, hS.F ht⟩) hS.2.2 dX12_count_175
                      · have q54 := mm_ltL (h := 3) (mm_nle c53) mm_k4 mm_k4 (by decide)
                        exact mm_no q54 (by decide)
                · have q55 := mm_eqI (lo := (-1)) (hi := (-1)) c40 rv39 mm_km1 (by decide)
                  refine lv_iconst (v := 0) hx hb dX12_count_161 (by decide) ?_
                  refine lv_goto (tgt := 166) hx hb dX12_count_162 (by decide) ?_
                  refine lv_iadd hx hb dX12_count_166 ?_
                  refine lv_topi (fun v56 ev56 => ?_)
                  obtain rfl : v56 = 2 := ev56.trans (by decide)
                  refine lv_istore_n (lv' := [(2, .int 2), (3, .int 2), (0, .ref a_0), (1, .int 9)]) hx hb dX12_count_167 rfl hl (by decide) rfl ?_
                  clear hl
                  clear ls
                  intro ls hl
                  refine lv_iinc (v := 3) (lv' := [(3, .int 3), (2, .int 2), (0, .ref a_0), (1, .int 9)]) hx hb dX12_count_168 hl (k := 1) rfl (by decide) (by decide) rfl ?_
                  clear hl
                  clear ls
                  intro ls hl
                  refine lv_goto (tgt := 145) hx hb dX12_count_171 (by decide) ?_
                  refine lv_iload_n hx hb dX12_count_145 rfl (lv_at hl 0 rfl) ?_
                  refine lv_iconst (v := 4) hx hb dX12_count_146 (by decide) ?_
                  refine lv_icmp_ge (tgt := 174) hx hb dX12_count_147 (by decide) (fun c57 => ?_) (fun c57 => ?_)
                  · have q58 := mm_leL (mm_le c57) mm_k4 mm_k3
                    exact mm_no q58 (by decide)
                  · refine lv_iload_n hx hb dX12_count_150 rfl (lv_at hl 1 rfl) ?_
                    refine lv_aload_n hx hb dX12_count_151 rfl (lv_at hl 2 rfl) ?_
                    refine va_get (D := G) (ci := 12) (v := .ref a_1) (C := RX12) (T := TX12) (N := 38) hx hb hts (mm_i inlX12) hown hK.1 hP 0 rfl rfl 1 (by decide) (mm_h hts mm_w142) (fun _ h9 => h9) rfl dX12_count_152 ?_
                    refine lv_iload_n hx hb dX12_count_155 rfl (lv_at hl 0 rfl) ?_
                    refine va_iald hx hb hK.1 hP 1 1 rfl rfl (mm_in mm_k3 (by decide)) dX12_count_156 ?_
                    refine lv_topi (fun v59 ev59 => ?_)
                    have rv59 : mm_rg v59 (-1) 3 := mm_eqv ev59 (h1 _)
                    refine lv_iconst (v := (-1)) hx hb dX12_count_157 (by decide) ?_
                    refine lv_icmp_ne (tgt := 165) hx hb dX12_count_158 (by decide) (fun c60 => ?_) (fun c60 => ?_)
                    · have q61 := mm_neL (lo := 0) (mm_ne c60) rv59 mm_km1 (by decide) (by decide)
                      refine lv_iconst (v := 1) hx hb dX12_count_165 (by decide) ?_
                      refine lv_iadd hx hb dX12_count_166 ?_
                      refine lv_topi (fun v62 ev62 => ?_)
                      obtain rfl : v62 = 3 := ev62.trans (by decide)
                      refine lv_istore_n (lv' := [(2, .int 3), (3, .int 3), (0, .ref a_0), (1, .int 9)]) hx hb dX12_count_167 rfl hl (by decide) rfl ?_
                      clear hl
                      clear ls
                      intro ls hl
                      refine lv_iinc (v := 4) (lv' := [(3, .int 4), (2, .int 3), (0, .ref a_0), (1, .int 9)]) hx hb dX12_count_168 hl (k := 1) rfl (by decide) (by decide) rfl ?_
                      clear hl
                      clear ls
                      intro ls hl
                      refine lv_goto (tgt := 145) hx hb dX12_count_171 (by decide) ?_
                      refine lv_iload_n hx hb dX12_count_145 rfl (lv_at hl 0 rfl) ?_
                      refine lv_iconst (v := 4) hx hb dX12_count_146 (by decide) ?_
                      refine lv_icmp_ge (tgt := 174) hx hb dX12_count_147 (by decide) (fun c63 => ?_) (fun c63 => ?_)
                      · refine lv_iload_n hx hb dX12_count_174 rfl (lv_at hl 1 rfl) ?_
                        subst hAe
                        rw [hQ]
                        exact W.iret (v := 3) hx hb hr (fun t ht hW => ⟨⟨3, (), rfl, (mm_wk mm_k3 (by decide)), by rw [ht]; exact hP, hK.warm hW, hD⟩, hS.F ht⟩) hS.2.2 dX12_count_175
                      · have q64 := mm_ltL (h := 3) (mm_nle c63) mm_k4 mm_k4 (by decide)
                        exact mm_no q64 (by decide)
                    · have q65 := mm_eqI (lo := (-1)) (hi := (-1)) c60 rv59 mm_km1 (by decide)
                      refine lv_iconst (v := 0) hx hb dX12_count_161 (by decide) ?_
                      refine lv_goto (tgt := 166) hx hb dX12_count_162 (by decide) ?_
                      refine lv_iadd hx hb dX12_count_166 ?_
                      refine lv_topi (fun v66 ev66 => ?_)
                      obtain rfl : v66 = 2 := ev66.trans (by decide)
                      refine lv_istore_n (lv' := [(2, .int 2), (3, .int 3), (0, .ref a_0), (1, .int 9)]) hx hb dX12_count_167 rfl hl (by decide) rfl ?_
                      clear hl
                      clear ls
                      intro ls hl
                      refine lv_iinc (v := 4) (lv' := [(3, .int 4), (2, .int 2), (0, .ref a_0), (1, .int 9)]) hx hb dX12_count_168 hl (k := 1) rfl (by decide) (by decide) rfl ?_
                      clear hl
                      clear ls
                      intro ls hl
                      refine lv_goto (tgt := 145) hx hb dX12_count_171 (by decide) ?_
                      refine lv_iload_n hx hb dX12_count_145 rfl (lv_at hl 0 rfl) ?_
                      refine lv_iconst (v := 4) hx hb dX12_count_146 (by decide) ?_
                      refine lv_icmp_ge (tgt := 174) hx hb dX12_count_147 (by decide) (fun c67 => ?_) (fun c67 => ?_)
                      · refine lv_iload_n hx hb dX12_count_174 rfl (lv_at hl 1 rfl) ?_
                        subst hAe
                        rw [hQ]
                        exact W.iret (v := 2) hx hb hr (fun t ht hW => ⟨⟨2, (), rfl, (mm_wk mm_k2 (by decide)), by rw [ht]; exact hP, hK.warm hW, hD⟩, hS.F ht⟩) hS.2.2 dX12_count_175
                      · have q68 := mm_ltL (h := 3) (mm_nle c67) mm_k4 mm_k4 (by decide)
                        exact mm_no q68 (by decide)
            · have q69 := mm_eqI (lo := (-1)) (hi := (-1)) c34 rv33 mm_km1 (by decide)
              refine lv_iconst (v := 0) hx hb dX12_count_161 (by decide) ?_
              refine lv_goto (tgt := 166) hx hb dX12_count_162 (by decide) ?_
              refine lv_iadd hx hb dX12_count_166 ?_
              refine lv_topi (fun v70 ev70 => ?_)
              obtain rfl : v70 = 1 := ev70.trans (by decide)
              refine lv_istore_n (lv' := [(2, .int 1), (3, .int 1), (0, .ref a_0), (1, .int 9)]) hx hb dX12_count_167 rfl hl (by decide) rfl ?_
              clear hl
              clear ls
              intro ls hl
              refine lv_iinc (v := 2) (lv' := [(3, .int 2), (2, .int 1), (0, .ref a_0), (1, .int 9)]) hx hb dX12_count_168 hl (k := 1) rfl (by decide) (by decide) rfl ?_
              clear hl
              clear ls
              intro ls hl
              refine lv_goto (tgt := 145) hx hb dX12_count_171 (by decide) ?_
              refine lv_iload_n hx hb dX12_count_145 rfl (lv_at hl 0 rfl) ?_
              refine lv_iconst (v := 4) hx hb dX12_count_146 (by decide) ?_
              refine lv_icmp_ge (tgt := 174) hx hb dX12_count_147 (by decide) (fun c71 => ?_) (fun c71 => ?_)
              · have q72 := mm_leL (mm_le c71) mm_k4 mm_k2
                exact mm_no q72 (by decide)
              · refine lv_iload_n hx hb dX12_count_150 rfl (lv_at hl 1 rfl) ?_
                refine lv_aload_n hx hb dX12_count_151 rfl (lv_at hl 2 rfl) ?_
                refine va_get (D := G) (ci := 12) (v := .ref a_1) (C := RX12) (T := TX12) (N := 38) hx hb hts (mm_i inlX12) hown hK.1 hP 0 rfl rfl 1 (by decide) (mm_h hts mm_w142) (fun _ h9 => h9) rfl dX12_count_152 ?_
                refine lv_iload_n hx hb dX12_count_155 rfl (lv_at hl 0 rfl) ?_
                refine va_iald hx hb hK.1 hP 1 1 rfl rfl (mm_in mm_k2 (by decide)) dX12_count_156 ?_
                refine lv_topi (fun v73 ev73 => ?_)
                have rv73 : mm_rg v73 (-1) 3 := mm_eqv ev73 (h1 _)
                refine lv_iconst (v := (-1)) hx hb dX12_count_157 (by decide) ?_
                refine lv_icmp_ne (tgt := 165) hx hb dX12_count_158 (by decide) (fun c74 => ?_) (fun c74 => ?_)
                · have q75 := mm_neL (lo := 0) (mm_ne c74) rv73 mm_km1 (by decide) (by decide)
                  refine lv_iconst (v := 1) hx hb dX12_count_165 (by decide) ?_
                  refine lv_iadd hx hb dX12_count_166 ?_
                  refine lv_topi (fun v76 ev76 => ?_)
                  obtain rfl : v76 = 2 := ev76.trans (by decide)
                  refine lv_istore_n (lv' := [(2, .int 2), (3, .int 2), (0, .ref a_0), (1, .int 9)]) hx hb dX12_count_167 rfl hl (by decide) rfl ?_
                  clear hl
                  clear ls
                  intro ls hl
                  refine lv_iinc (v := 3) (lv' := [(3, .int 3), (2, .int 2), (0, .ref a_0), (1, .int 9)]) hx hb dX12_count_168 hl (k := 1) rfl (by decide) (by decide) rfl ?_
                  clear hl
                  clear ls
                  intro ls hl
                  refine lv_goto (tgt := 145) hx hb dX12_count_171 (by decide) ?_
                  refine lv_iload_n hx hb dX12_count_145 rfl (lv_at hl 0 rfl) ?_
                  refine lv_iconst (v := 4) hx hb dX12_count_146 (by decide) ?_
                  refine lv_icmp_ge (tgt := 174) hx hb dX12_count_147 (by decide) (fun c77 => ?_) (fun c77 => ?_)
                  · have q78 := mm_leL (mm_le c77) mm_k4 mm_k3
                    exact mm_no q78 (by decide)
                  · refine lv_iload_n hx hb dX12_count_150 rfl (lv_at hl 1 rfl) ?_
                    refine lv_aload_n hx hb dX12_count_151 rfl (lv_at hl 2 rfl) ?_
                    refine va_get (D := G) (ci := 12) (v := .ref a_1) (C := RX12) (T := TX12) (N := 38) hx hb hts (mm_i inlX12) hown hK.1 hP 0 rfl rfl 1 (by decide) (mm_h hts mm_w142) (fun _ h9 => h9) rfl dX12_count_152 ?_
                    refine lv_iload_n hx hb dX12_count_155 rfl (lv_at hl 0 rfl) ?_
                    refine va_iald hx hb hK.1 hP 1 1 rfl rfl (mm_in mm_k3 (by decide)) dX12_count_156 ?_
                    refine lv_topi (fun v79 ev79 => ?_)
                    have rv79 : mm_rg v79 (-1) 3 := mm_eqv ev79 (h1 _)
                    refine lv_iconst (v := (-1)) hx hb dX12_count_157 (by decide) ?_
                    refine lv_icmp_ne (tgt := 165) hx hb dX12_count_158 (by decide) (fun c80 => ?_) (fun c80 => ?_)
                    · have q81 := mm_neL (lo := 0) (mm_ne c80) rv79 mm_km1 (by decide) (by decide)
                      refine lv_iconst (v := 1) hx hb dX12_count_165 (by decide) ?_
                      refine lv_iadd hx hb dX12_count_166 ?_
                      refine lv_topi (fun v82 ev82 => ?_)
                      obtain rfl : v82 = 3 := ev82.trans (by decide)
                      refine lv_istore_n (lv' := [(2, .int 3), (3, .int 3), (0, .ref a_0), (1, .int 9)]) hx hb dX12_count_167 rfl hl (by decide) rfl ?_
                      clear hl
                      clear ls
                      intro ls hl
                      refine lv_iinc (v := 4) (lv' := [(3, .int 4), (2, .int 3), (0, .ref a_0), (1, .int 9)]) hx hb dX12_count_168 hl (k := 1) rfl (by decide) (by decide) rfl ?_
                      clear hl
                      clear ls
                      intro ls hl
                      refine lv_goto (tgt := 145) hx hb dX12_count_171 (by decide) ?_
                      refine lv_iload_n hx hb dX12_count_145 rfl (lv_at hl 0 rfl) ?_
                      refine lv_iconst (v := 4) hx hb dX12_count_146 (by decide) ?_
                      refine lv_icmp_ge (tgt := 174) hx hb dX12_count_147 (by decide) (fun c83 => ?_) (fun c83 => ?_)
                      · refine lv_iload_n hx hb dX12_count_174 rfl (lv_at hl 1 rfl) ?_
                        subst hAe
                        rw [hQ]
                        exact W.iret (v := 3) hx hb hr (fun t ht hW => ⟨⟨3, (), rfl, (mm_wk mm_k3 (by decide)), by rw [ht]; exact hP, hK.warm hW, hD⟩, hS.F ht⟩) hS.2.2 dX12_count_175
                      · have q84 := mm_ltL (h := 3) (mm_nle c83) mm_k4 mm_k4 (by decide)
                        exact mm_no q84 (by decide)
                    · have q85 := mm_eqI (lo := (-1)) (hi := (-1)) c80 rv79 mm_km1 (by decide)
                      refine lv_iconst (v := 0) hx hb dX12_count_161 (by decide) ?_
                      refine lv_goto (tgt := 166) hx hb dX12_count_162 (by decide) ?_
                      refine lv_iadd hx hb dX12_count_166 ?_
                      refine lv_topi (fun v86 ev86 => ?_)
                      obtain rfl : v86 = 2 := ev86.trans (by decide)
                      refine lv_istore_n (lv' := [(2, .int 2), (3, .int 3), (0, .ref a_0), (1, .int 9)]) hx hb dX12_count_167 rfl hl (by decide) rfl ?_
                      clear hl
                      clear ls
                      intro ls hl
                      refine lv_iinc (v := 4) (lv' := [(3, .int 4), (2, .int 2), (0, .ref a_0), (1, .int 9)]) hx hb dX12_count_168 hl (k := 1) rfl (by decide) (by decide) rfl ?_
                      clear hl
                      clear ls
                      intro ls hl
                      refine lv_goto (tgt := 145) hx hb dX12_count_171 (by decide) ?_
                      refine lv_iload_n hx hb dX12_count_145 rfl (lv_at hl 0 rfl) ?_
                      refine lv_iconst (v := 4) hx hb dX12_count_146 (by decide) ?_
                      refine lv_icmp_ge (tgt := 174) hx hb dX12_count_147 (by decide) (fun c87 => ?_) (fun c87 => ?_)
                      · refine lv_iload_n hx hb dX12_count_174 rfl (lv_at hl 1 rfl) ?_
                        subst hAe
                        rw [hQ]
                        exact W.iret (v := 2) hx hb hr (fun t ht hW => ⟨⟨2, (), rfl, (mm_wk mm_k2 (by decide)), by rw [ht]; exact hP, hK.warm hW, hD⟩, hS.F ht⟩) hS.2.2 dX12_count_175
                      · have q88 := mm_ltL (h := 3) (mm_nle c87) mm_k4 mm_k4 (by decide)
                        exact mm_no q88 (by decide)
                · have q89 := mm_eqI (lo := (-1)) (hi := (-1)) c74 rv73 mm_km1 (by decide)
                  refine lv_iconst (v := 0) hx hb dX12_count_161 (by decide) ?_
                  refine lv_goto (tgt := 166) hx hb dX12_count_162 (by decide) ?_
                  refine lv_iadd hx hb dX12_count_166 ?_
                  refine lv_topi (fun v90 ev90 => ?_)
                  obtain rfl : v90 = 1 := ev90.trans (by decide)
                  refine lv_istore_n (lv' := [(2, .int 1), (3, .int 2), (0, .ref a_0), (1, .int 9)]) hx hb dX12_count_167 rfl hl (by decide) rfl ?_
                  clear hl
                  clear ls
                  intro ls hl
                  refine lv_iinc (v := 3) (lv' := [(3, .int 3), (2, .int 1), (0, .ref a_0), (1, .int 9)]) hx hb dX12_count_168 hl (k := 1) rfl (by decide) (by decide) rfl ?_
                  clear hl
                  clear ls
                  intro ls hl
                  refine lv_goto (tgt := 145) hx hb dX12_count_171 (by decide) ?_
                  refine lv_iload_n hx hb dX12_count_145 rfl (lv_at hl 0 rfl) ?_
                  refine lv_iconst (v := 4) hx hb dX12_count_146 (by decide) ?_
                  refine lv_icmp_ge (tgt := 174) hx hb dX12_count_147 (by decide) (fun c91 => ?_) (fun c91 => ?_)
                  · have q92 := mm_leL (mm_le c91) mm_k4 mm_k3
                    exact mm_no q92 (by decide)
                  · refine lv_iload_n hx hb dX12_count_150 rfl (lv_at hl 1 rfl) ?_
                    refine lv_aload_n hx hb dX12_count_151 rfl (lv_at hl 2 rfl) ?_
                    refine va_get (D := G) (ci := 12) (v := .ref a_1) (C := RX12) (T := TX12) (N := 38) hx hb hts (mm_i inlX12) hown hK.1 hP 0 rfl rfl 1 (by decide) (mm_h hts mm_w142) (fun _ h9 => h9) rfl dX12_count_152 ?_
                    refine lv_iload_n hx hb dX12_count_155 rfl (lv_at hl 0 rfl) ?_
                    refine va_iald hx hb hK.1 hP 1 1 rfl rfl (mm_in mm_k3 (by decide)) dX12_count_156 ?_
                    refine lv_topi (fun v93 ev93 => ?_)
                    have rv93 : mm_rg v93 (-1) 3 := mm_eqv ev93 (h1 _)
                    refine lv_iconst (v := (-1)) hx hb dX12_count_157 (by decide) ?_
                    refine lv_icmp_ne (tgt := 165) hx hb dX12_count_158 (by decide) (fun c94 => ?_) (fun c94 => ?_)
                    · have q95 := mm_neL (lo := 0) (mm_ne c94) rv93 mm_km1 (by decide) (by decide)
                      refine lv_iconst (v := 1) hx hb dX12_count_165 (by decide) ?_
                      refine lv_iadd hx hb dX12_count_166 ?_
                      refine lv_topi (fun v96 ev96 => ?_)
                      obtain rfl : v96 = 2 := ev96.trans (by decide)
                      refine lv_istore_n (lv' := [(2, .int 2), (3, .int 3), (0, .ref a_0), (1, .int 9)]) hx hb dX12_count_167 rfl hl (by decide) rfl ?_
                      clear hl
                      clear ls
                      intro ls hl
                      refine lv_iinc (v := 4) (lv' := [(3, .int 4), (2, .int 2), (0, .ref a_0), (1, .int 9)]) hx hb dX12_count_168 hl (k := 1) rfl (by decide) (by decide) rfl ?_
                      clear hl
                      clear ls
                      intro ls hl
                      refine lv_goto (tgt := 145) hx hb dX12_count_171 (by decide) ?_
                      refine lv_iload_n hx hb dX12_count_145 rfl (lv_at hl 0 rfl) ?_
                      refine lv_iconst (v := 4) hx hb dX12_count_146 (by decide) ?_
                      refine lv_icmp_ge (tgt := 174) hx hb dX12_count_147 (by decide) (fun c97 => ?_) (fun c97 => ?_)
                      · refine lv_iload_n hx hb dX12_count_174 rfl (lv_at hl 1 rfl) ?_
                        subst hAe
                        rw [hQ]
                        exact W.iret (v := 2) hx hb hr (fun t ht hW => ⟨⟨2, (), rfl, (mm_wk mm_k2 (by decide)), by rw [ht]; exact hP, hK.warm hW, hD⟩, hS.F ht⟩) hS.2.2 dX12_count_175
                      · have q98 := mm_ltL (h := 3) (mm_nle c97) mm_k4 mm_k4 (by decide)
                        exact mm_no q98 (by decide)
                    · have q99 := mm_eqI (lo := (-1)) (hi := (-1)) c94 rv93 mm_km1 (by decide)
                      refine lv_iconst (v := 0) hx hb dX12_count_161 (by decide) ?_
                      refine lv_goto (tgt := 166) hx hb dX12_count_162 (by decide) ?_
                      refine lv_iadd hx hb dX12_count_166 ?_
                      refine lv_topi (fun v100 ev100 => ?_)
                      obtain rfl : v100 = 1 := ev100.trans (by decide)
                      refine lv_istore_n (lv' := [(2, .int 1), (3, .int 3), (0, .ref a_0), (1, .int 9)]) hx hb dX12_count_167 rfl hl (by decide) rfl ?_
                      clear hl
                      clear ls
                      intro ls hl
                      refine lv_iinc (v := 4) (lv' := [(3, .int 4), (2, .int 1), (0, .ref a_0), (1, .int 9)]) hx hb dX12_count_168 hl (k := 1) rfl (by decide) (by decide) rfl ?_
                      clear hl
                      clear ls
                      intro ls hl
                      refine lv_goto (tgt := 145) hx hb dX12_count_171 (by decide) ?_
                      refine lv_iload_n hx hb dX12_count_145 rfl (lv_at hl 0 rfl) ?_
                      refine lv_iconst (v := 4) hx hb dX12_count_146 (by decide) ?_
                      refine lv_icmp_ge (tgt := 174) hx hb dX12_count_147 (by decide) (fun c101 => ?_) (fun c101 => ?_)
                      · refine lv_iload_n hx hb dX12_count_174 rfl (lv_at hl 1 rfl) ?_
                        subst hAe
                        rw [hQ]
                        exact W.iret (v := 1) hx hb hr (fun t ht hW => ⟨⟨1, (), rfl, (mm_wk mm_k1 (by decide)), by rw [ht]; exact hP, hK.warm hW, hD⟩, hS.F ht⟩) hS.2.2 dX12_count_175
                      · have q102 := mm_ltL (h := 3) (mm_nle c101) mm_k4 mm_k4 (by decide)
                        exact mm_no q102 (by decide)
        · have q103 := mm_eqI (lo := (-1)) (hi := (-1)) c28 rv27 mm_km1 (by decide)
          refine lv_iconst (v := 0) hx hb dX12_count_161 (by decide) ?_
          refine lv_goto (tgt := 166) hx hb dX12_count_162 (by decide) ?_
          refine lv_iadd hx hb dX12_count_166 ?_
          refine lv_topi (fun v104 ev104 => ?_)
          obtain rfl : v104 = 0 := ev104.trans (by decide)
          refine lv_istore_n (lv' := [(2, .int 0), (3, .int 0), (0, .ref a_0), (1, .int 9)]) hx hb dX12_count_167 rfl hl (by decide) rfl ?_
          clear hl
          clear ls
          intro ls hl
          refine lv_iinc (v := 1) (lv' := [(3, .int 1), (2, .int 0), (0, .ref a_0), (1, .int 9)]) hx hb dX12_count_168 hl (k := 1) rfl (by decide) (by decide) rfl ?_
          clear hl
          clear ls
          intro ls hl
          refine lv_goto (tgt := 145) hx hb dX12_count_171 (by decide) ?_
          refine lv_iload_n hx hb dX12_count_145 rfl (lv_at hl 0 rfl) ?_
          refine lv_iconst (v := 4) hx hb dX12_count_146 (by decide) ?_
          refine lv_icmp_ge (tgt := 174) hx hb dX12_count_147 (by decide) (fun c105 => ?_) (fun c105 => ?_)
          · have q106 := mm_leL (mm_le c105) mm_k4 mm_k1
            exact mm_no q106 (by decide)
          · refine lv_iload_n hx hb dX12_count_150 rfl (lv_at hl 1 rfl) ?_
            refine lv_aload_n hx hb dX12_count_151 rfl (lv_at hl 2 rfl) ?_
            refine va_get (D := G) (ci := 12) (v := .ref a_1) (C := RX12) (T := TX12) (N := 38) hx hb hts (mm_i inlX12) hown hK.1 hP 0 rfl rfl 1 (by decide) (mm_h hts mm_w142) (fun _ h9 => h9) rfl dX12_count_152 ?_
            refine lv_iload_n hx hb dX12_count_155 rfl (lv_at hl 0 rfl) ?_
            refine va_iald hx hb hK.1 hP 1 1 rfl rfl (mm_in mm_k1 (by decide)) dX12_count_156 ?_
            refine lv_topi (fun v107 ev107 => ?_)
            have rv107 : mm_rg v107 (-1) 3 := mm_eqv ev107 (h1 _)
            refine lv_iconst (v := (-1)) hx hb dX12_count_157 (by decide) ?_
            refine lv_icmp_ne (tgt := 165) hx hb dX12_count_158 (by decide) (fun c108 => ?_) (fun c108 => ?_)
            · have q109 := mm_neL (lo := 0) (mm_ne c108) rv107 mm_km1 (by decide) (by decide)
              refine lv_iconst (v := 1) hx hb dX12_count_165 (by decide) ?_
              refine lv_iadd hx hb dX12_count_166 ?_
              refine lv_topi (fun v110 ev110 => ?_)
              obtain rfl : v110 = 1 := ev110.trans (by decide)
              refine lv_istore_n (lv' := [(2, .int 1), (3, .int 1), (0, .ref a_0), (1, .int 9)]) hx hb dX12_count_167 rfl hl (by decide) rfl ?_
              clear hl
              clear ls
              intro ls hl
              refine lv_iinc (v := 2) (lv' := [(3, .int 2), (2, .int 1), (0, .ref a_0), (1, .int 9)]) hx hb dX12_count_168 hl (k := 1) rfl (by decide) (by decide) rfl ?_
              clear hl
              clear ls
              intro ls hl
              refine lv_goto (tgt := 145) hx hb dX12_count_171 (by decide) ?_
              refine lv_iload_n hx hb dX12_count_145 rfl (lv_at hl 0 rfl) ?_
              refine lv_iconst (v := 4) hx hb dX12_count_146 (by decide) ?_
              refine lv_icmp_ge (tgt := 174) hx hb dX12_count_147 (by decide) (fun c111 => ?_) (fun c111 => ?_)
              · have q112 := mm_leL (mm_le c111) mm_k4 mm_k2
                exact mm_no q112 (by decide)
              · refine lv_iload_n hx hb dX12_count_150 rfl (lv_at hl 1 rfl) ?_
                refine lv_aload_n hx hb dX12_count_151 rfl (lv_at hl 2 rfl) ?_
                refine va_get (D := G) (ci := 12) (v := .ref a_1) (C := RX12) (T := TX12) (N := 38) hx hb hts (mm_i inlX12) hown hK.1 hP 0 rfl rfl 1 (by decide) (mm_h hts mm_w142) (fun _ h9 => h9) rfl dX12_count_152 ?_
                refine lv_iload_n hx hb dX12_count_155 rfl (lv_at hl 0 rfl) ?_
                refine va_iald hx hb hK.1 hP 1 1 rfl rfl (mm_in mm_k2 (by decide)) dX12_count_156 ?_
                refine lv_topi (fun v113 ev113 => ?_)
                have rv113 : mm_rg v113 (-1) 3 := mm_eqv ev113 (h1 _)
                refine lv_iconst (v := (-1)) hx hb dX12_count_157 (by decide) ?_
                refine lv_icmp_ne (tgt := 165) hx hb dX12_count_158 (by decide) (fun c114 => ?_) (fun c114 => ?_)
                · have q115 := mm_neL (lo := 0) (mm_ne c114) rv113 mm_km1 (by decide) (by decide)
                  refine lv_iconst (v := 1) hx hb dX12_count_165 (by decide) ?_
                  refine lv_iadd hx hb dX12_count_166 ?_
                  refine lv_topi (fun v116 ev116 => ?_)
                  obtain rfl : v116 = 2 := ev116.trans (by decide)
                  refine lv_istore_n (lv' := [(2, .int 2), (3, .int 2), (0, .ref a_0), (1, .int 9)]) hx hb dX12_count_167 rfl hl (by decide) rfl ?_
                  clear hl
                  clear ls
                  intro ls hl
                  refine lv_iinc (v := 3) (lv' := [(3, .int 3), (2, .int 2), (0, .ref a_0), (1, .int 9)]) hx hb dX12_count_168 hl (k := 1) rfl (by decide) (by decide) rfl ?_
                  clear hl
                  clear ls
                  intro ls hl
                  refine lv_goto (tgt := 145) hx hb dX12_count_171 (by decide) ?_
                  refine lv_iload_n hx hb dX12_count_145 rfl (lv_at hl 0 rfl) ?_
                  refine lv_iconst (v := 4) hx hb dX12_count_146 (by decide) ?_
                  refine lv_icmp_ge (tgt := 174) hx hb dX12_count_147 (by decide) (fun c117 => ?_) (fun c117 => ?_)
                  · have q118 := mm_leL (mm_le c117) mm_k4 mm_k3
                    exact mm_no q118 (by decide)
                  · refine lv_iload_n hx hb dX12_count_150 rfl (lv_at hl 1 rfl) ?_
                    refine lv_aload_n hx hb dX12_count_151 rfl (lv_at hl 2 rfl) ?_
                    refine va_get (D := G) (ci := 12) (v := .ref a_1) (C := RX12) (T := TX12) (N := 38) hx hb hts (mm_i inlX12) hown hK.1 hP 0 rfl rfl 1 (by decide) (mm_h hts mm_w142) (fun _ h9 => h9) rfl dX12_count_152 ?_
                    refine lv_iload_n hx hb dX12_count_155 rfl (lv_at hl 0 rfl) ?_
                    refine va_iald hx hb hK.1 hP 1 1 rfl rfl (mm_in mm_k3 (by decide)) dX12_count_156 ?_
                    refine lv_topi (fun v119 ev119 => ?_)
                    have rv119 : mm_rg v119 (-1) 3 := mm_eqv ev119 (h1 _)
                    refine lv_iconst (v := (-1)) hx hb dX12_count_157 (by decide) ?_
                    refine lv_icmp_ne (tgt := 165) hx hb dX12_count_158 (by decide) (fun c120 => ?_) (fun c120 => ?_)
                    · have q121 := mm_neL (lo := 0) (mm_ne c120) rv119 mm_km1 (by decide) (by decide)
                      refine lv_iconst (v := 1) hx hb dX12_count_165 (by decide) ?_
                      refine lv_iadd hx hb dX12_count_166 ?_
                      refine lv_topi (fun v122 ev122 => ?_)
                      obtain rfl : v122 = 3 := ev122.trans (by decide)
                      refine lv_istore_n (lv' := [(2, .int 3), (3, .int 3), (0, .ref a_0), (1, .int 9)]) hx hb dX12_count_167 rfl hl (by decide) rfl ?_
                      clear hl
                      clear ls
                      intro ls hl
                      refine lv_iinc (v := 4) (lv' := [(3, .int 4), (2, .int 3), (0, .ref a_0), (1, .int 9)]) hx hb dX12_count_168 hl (k := 1) rfl (by decide) (by decide) rfl ?_
                      clear hl
                      clear ls
                      intro ls hl
                      refine lv_goto (tgt := 145) hx hb dX12_count_171 (by decide) ?_
                      refine lv_iload_n hx hb dX12_count_145 rfl (lv_at hl 0 rfl) ?_
                      refine lv_iconst (v := 4) hx hb dX12_count_146 (by decide) ?_
                      refine lv_icmp_ge (tgt := 174) hx hb dX12_count_147 (by decide) (fun c123 => ?_) (fun c123 => ?_)
                      · refine lv_iload_n hx hb dX12_count_174 rfl (lv_at hl 1 rfl) ?_
                        subst hAe
                        rw [hQ]
                        exact W.iret (v := 3) hx hb hr (fun t ht hW => ⟨⟨3, (), rfl, (mm_wk mm_k3 (by decide)), by rw [ht]; exact hP, hK.warm hW, hD⟩, hS.F ht⟩) hS.2.2 dX12_count_175
                      · have q124 := mm_ltL (h := 3) (mm_nle c123) mm_k4 mm_k4 (by decide)
                        exact mm_no q124 (by decide)
                    · have q125 := mm_eqI (lo := (-1)) (hi := (-1)) c120 rv119 mm_km1 (by decide)
                      refine lv_iconst (v := 0) hx hb dX12_count_161 (by decide) ?_
                      refine lv_goto (tgt := 166) hx hb dX12_count_162 (by decide) ?_
                      refine lv_iadd hx hb dX12_count_166 ?_
                      refine lv_topi (fun v126 ev126 => ?_)
                      obtain rfl : v126 = 2 := ev126.trans (by decide)
                      refine lv_istore_n (lv' := [(2, .int 2), (3, .int 3), (0, .ref a_0), (1, .int 9)]) hx hb dX12_count_167 rfl hl (by decide) rfl ?_
                      clear hl
                      clear ls
                      intro ls hl
                      refine lv_iinc (v := 4) (lv' := [(3, .int 4), (2, .int 2), (0, .ref a_0), (1, .int 9)]) hx hb dX12_count_168 hl (k := 1) rfl (by decide) (by decide) rfl ?_
                      clear hl
                      clear ls
                      intro ls hl
                      refine lv_goto (tgt := 145) hx hb dX12_count_171 (by decide) ?_
                      refine lv_iload_n hx hb dX12_count_145 rfl (lv_at hl 0 rfl) ?_
                      refine lv_iconst (v := 4) hx hb dX12_count_146 (by decide) ?_
                      refine lv_icmp_ge (tgt := 174) hx hb dX12_count_147 (by decide) (fun c127 => ?_) (fun c127 => ?_)
                      · refine lv_iload_n hx hb dX12_count_174 rfl (lv_at hl 1 rfl) ?_
                        subst hAe
                        rw [hQ]
                        exact W.iret (v := 2) hx hb hr (fun t ht hW => ⟨⟨2, (), rfl, (mm_wk mm_k2 (by decide)), by rw [ht]; exact hP, hK.warm hW, hD⟩, hS.F ht⟩) hS.2.2 dX12_count_175
                      · have q128 := mm_ltL (h := 3) (mm_nle c127) mm_k4 mm_k4 (by decide)
                        exact mm_no q128 (by decide)
                · have q129 := mm_eqI (lo := (-1)) (hi := (-1)) c114 rv113 mm_km1 (by decide)
                  refine lv_iconst (v := 0) hx hb dX12_count_161 (by decide) ?_
                  refine lv_goto (tgt := 166) hx hb dX12_count_162 (by decide) ?_
                  refine lv_iadd hx hb dX12_count_166 ?_
                  refine lv_topi (fun v130 ev130 => ?_)
                  obtain rfl : v130 = 1 := ev130.trans (by decide)
                  refine lv_istore_n (lv' := [(2, .int 1), (3, .int 2), (0, .ref a_0), (1, .int 9)]) hx hb dX12_count_167 rfl hl (by decide) rfl ?_
                  clear hl
                  clear ls
                  intro ls hl
                  refine lv_iinc (v := 3) (lv' := [(3, .int 3), (2, .int 1), (0, .ref a_0), (1, .int 9)]) hx hb dX12_count_168 hl (k := 1) rfl (by decide) (by decide) rfl ?_
                  clear hl
                  clear ls
                  intro ls hl
                  refine lv_goto (tgt := 145) hx hb dX12_count_171 (by decide) ?_
                  refine lv_iload_n hx hb dX12_count_145 rfl (lv_at hl 0 rfl) ?_
                  refine lv_iconst (v := 4) hx hb dX12_count_146 (by decide) ?_
                  refine lv_icmp_ge (tgt := 174) hx hb dX12_count_147 (by decide) (fun c131 => ?_) (fun c131 => ?_)
                  · have q132 := mm_leL (mm_le c131) mm_k4 mm_k3
                    exact mm_no q132 (by decide)
                  · refine lv_iload_n hx hb dX12_count_150 rfl (lv_at hl 1 rfl) ?_
                    refine lv_aload_n hx hb dX12_count_151 rfl (lv_at hl 2 rfl) ?_
                    refine va_get (D := G) (ci := 12) (v := .ref a_1) (C := RX12) (T := TX12) (N := 38) hx hb hts (mm_i inlX12) hown hK.1 hP 0 rfl rfl 1 (by decide) (mm_h hts mm_w142) (fun _ h9 => h9) rfl dX12_count_152 ?_
                    refine lv_iload_n hx hb dX12_count_155 rfl (lv_at hl 0 rfl) ?_
                    refine va_iald hx hb hK.1 hP 1 1 rfl rfl (mm_in mm_k3 (by decide)) dX12_count_156 ?_
                    refine lv_topi (fun v133 ev133 => ?_)
                    have rv133 : mm_rg v133 (-1) 3 := mm_eqv ev133 (h1 _)
                    refine lv_iconst (v := (-1)) hx hb dX12_count_157 (by decide) ?_
                    refine lv_icmp_ne (tgt := 165) hx hb dX12_count_158 (by decide) (fun c134 => ?_) (fun c134 => ?_)
                    · have q135 := mm_neL (lo := 0) (mm_ne c134) rv133 mm_km1 (by decide) (by decide)
                      refine lv_iconst (v := 1) hx hb dX12_count_165 (by decide) ?_
                      refine lv_iadd hx hb dX12_count_166 ?_
                      refine lv_topi (fun v136 ev136 => ?_)
                      obtain rfl : v136 = 2 := ev136.trans (by decide)
                      refine lv_istore_n (lv' := [(2, .int 2), (3, .int 3), (0, .ref a_0), (1, .int 9)]) hx hb dX12_count_167 rfl hl (by decide) rfl ?_
                      clear hl
                      clear ls
                      intro ls hl
                      refine lv_iinc (v := 4) (lv' := [(3, .int 4), (2, .int 2), (0, .ref a_0), (1, .int 9)]) hx hb dX12_count_168 hl (k := 1) rfl (by decide) (by decide) rfl ?_
                      clear hl
                      clear ls
                      intro ls hl
                      refine lv_goto (tgt := 145) hx hb dX12_count_171 (by decide) ?_
                      refine lv_iload_n hx hb dX12_count_145 rfl (lv_at hl 0 rfl) ?_
                      refine lv_iconst (v := 4) hx hb dX12_count_146 (by decide) ?_
                      refine lv_icmp_ge (tgt := 174) hx hb dX12_count_147 (by decide) (fun c137 => ?_) (fun c137 => ?_)
                      · refine lv_iload_n hx hb dX12_count_174 rfl (lv_at hl 1 rfl) ?_
                        subst hAe
                        rw [hQ]
                        exact W.iret (v := 2) hx hb hr (fun t ht hW => ⟨⟨2, (), rfl, (mm_wk mm_k2 (by decide)), by rw [ht]; exact hP, hK.warm hW, hD⟩, hS.F ht⟩) hS.2.2 dX12_count_175
                      · have q138 := mm_ltL (h := 3) (mm_nle c137) mm_k4 mm_k4 (by decide)
                        exact mm_no q138 (by decide)
                    · have q139 := mm_eqI (lo := (-1)) (hi := (-1)) c134 rv133 mm_km1 (by decide)
                      refine lv_iconst (v := 0) hx hb dX12_count_161 (by decide) ?_
                      refine lv_goto (tgt := 166) hx hb dX12_count_162 (by decide) ?_
                      refine lv_iadd hx hb dX12_count_166 ?_
                      refine lv_topi (fun v140 ev140 => ?_)
                      obtain rfl : v140 = 1 := ev140.trans (by decide)
                      refine lv_istore_n (lv' := [(2, .int 1), (3, .int 3), (0, .ref a_0), (1, .int 9)]) hx hb dX12_count_167 rfl hl (by decide) rfl ?_
                      clear hl
                      clear ls
                      intro ls hl
                      refine lv_iinc (v := 4) (lv' := [(3, .int 4), (2, .int 1), (0, .ref a_0), (1, .int 9)]) hx hb dX12_count_168 hl (k := 1) rfl (by decide) (by decide) rfl ?_
                      clear hl
                      clear ls
                      intro ls hl
                      refine lv_goto (tgt := 145) hx hb dX12_count_171 (by decide) ?_
                      refine lv_iload_n hx hb dX12_count_145 rfl (lv_at hl 0 rfl) ?_
                      refine lv_iconst (v := 4) hx hb dX12_count_146 (by decide) ?_
                      refine lv_icmp_ge (tgt := 174) hx hb dX12_count_147 (by decide) (fun c141 => ?_) (fun c141 => ?_)
                      · refine lv_iload_n hx hb dX12_count_174 rfl (lv_at hl 1 rfl) ?_
                        subst hAe
                        rw [hQ]
                        exact W.iret (v := 1) hx hb hr (fun t ht hW => ⟨⟨1, (), rfl, (mm_wk mm_k1 (by decide)), by rw [ht]; exact hP, hK.warm hW, hD⟩, hS.F ht⟩) hS.2.2 dX12_count_175
                      · have q142 := mm_ltL (h := 3) (mm_nle c141) mm_k4 mm_k4 (by decide)
                        exact mm_no q142 (by decide)
            · have q143 := mm_eqI (lo := (-1)) (hi := (-1)) c108 rv107 mm_km1 (by decide)
              refine lv_iconst (v := 0) hx hb dX12_count_161 (by decide) ?_
              refine lv_goto (tgt := 166) hx hb dX12_count_162 (by decide) ?_
              refine lv_iadd hx hb dX12_count_166 ?_
              refine lv_topi (fun v144 ev144 => ?_)
              obtain rfl : v144 = 0 := ev144.trans (by decide)
              refine lv_istore_n (lv' := [(2, .int 0), (3, .int 1), (0, .ref a_0), (1, .int 9)]) hx hb dX12_count_167 rfl hl (by decide) rfl ?_
              clear hl
              clear ls
              intro ls hl
              refine lv_iinc (v := 2) (lv' := [(3, .int 2), (2, .int 0), (0, .ref a_0), (1, .int 9)]) hx hb dX12_count_168 hl (k := 1) rfl (by decide) (by decide) rfl ?_
              clear hl
              clear ls
              intro ls hl
              refine lv_goto (tgt := 145) hx hb dX12_count_171 (by decide) ?_
              refine lv_iload_n hx hb dX12_count_145 rfl (lv_at hl 0 rfl) ?_
              refine lv_iconst (v := 4) hx hb dX12_count_146 (by decide) ?_
              refine lv_icmp_ge (tgt := 174) hx hb dX12_count_147 (by decide) (fun c145 => ?_) (fun c145 => ?_)
              · have q146 := mm_leL (mm_le c145) mm_k4 mm_k2
                exact mm_no q146 (by decide)
              · refine lv_iload_n hx hb dX12_count_150 rfl (lv_at hl 1 rfl) ?_
                refine lv_aload_n hx hb dX12_count_151 rfl (lv_at hl 2 rfl) ?_
                refine va_get (D := G) (ci := 12) (v := .ref a_1) (C := RX12) (T := TX12) (N := 38) hx hb hts (mm_i inlX12) hown hK.1 hP 0 rfl rfl 1 (by decide) (mm_h hts mm_w142) (fun _ h9 => h9) rfl dX12_count_152 ?_
                refine lv_iload_n hx hb dX12_count_155 rfl (lv_at hl 0 rfl) ?_
                refine va_iald hx hb hK.1 hP 1 1 rfl rfl (mm_in mm_k2 (by decide)) dX12_count_156 ?_
                refine lv_topi (fun v147 ev147 => ?_)
                have rv147 : mm_rg v147 (-1) 3 := mm_eqv ev147 (h1 _)
                refine lv_iconst (v := (-1)) hx hb dX12_count_157 (by decide) ?_
                refine lv_icmp_ne (tgt := 165) hx hb dX12_count_158 (by decide) (fun c148 => ?_) (fun c148 => ?_)
                · have q149 := mm_neL (lo := 0) (mm_ne c148) rv147 mm_km1 (by decide) (by decide)
                  refine lv_iconst (v := 1) hx hb dX12_count_165 (by decide) ?_
                  refine lv_iadd hx hb dX12_count_166 ?_
                  refine lv_topi (fun v150 ev150 => ?_)
                  obtain rfl : v150 = 1 := ev150.trans (by decide)
                  refine lv_istore_n (lv' := [(2, .int 1), (3, .int 2), (0, .ref a_0), (1, .int 9)]) hx hb dX12_count_167 rfl hl (by decide) rfl ?_
                  clear hl
                  clear ls
                  intro ls hl
                  refine lv_iinc (v := 3) (lv' := [(3, .int 3), (2, .int 1), (0, .ref a_0), (1, .int 9)]) hx hb dX12_count_168 hl (k := 1) rfl (by decide) (by decide) rfl ?_
                  clear hl
                  clear ls
                  intro ls hl
                  refine lv_goto (tgt := 145) hx hb dX12_count_171 (by decide) ?_
                  refine lv_iload_n hx hb dX12_count_145 rfl (lv_at hl 0 rfl) ?_
                  refine lv_iconst (v := 4) hx hb dX12_count_146 (by decide) ?_
                  refine lv_icmp_ge (tgt := 174) hx hb dX12_count_147 (by decide) (fun c151 => ?_) (fun c151 => ?_)
                  · have q152 := mm_leL (mm_le c151) mm_k4 mm_k3
                    exact mm_no q152 (by decide)
                  · refine lv_iload_n hx hb dX12_count_150 rfl (lv_at hl 1 rfl) ?_
                    refine lv_aload_n hx hb dX12_count_151 rfl (lv_at hl 2 rfl) ?_
                    refine va_get (D := G) (ci := 12) (v := .ref a_1) (C := RX12) (T := TX12) (N := 38) hx hb hts (mm_i inlX12) hown hK.1 hP 0 rfl rfl 1 (by decide) (mm_h hts mm_w142) (fun _ h9 => h9) rfl dX12_count_152 ?_
                    refine lv_iload_n hx hb dX12_count_155 rfl (lv_at hl 0 rfl) ?_
                    refine va_iald hx hb hK.1 hP 1 1 rfl rfl (mm_in mm_k3 (by decide)) dX12_count_156 ?_
                    refine lv_topi (fun v153 ev153 => ?_)
                    have rv153 : mm_rg v153 (-1) 3 := mm_eqv ev153 (h1 _)
                    refine lv_iconst (v := (-1)) hx hb dX12_count_157 (by decide) ?_
                    refine lv_icmp_ne (tgt := 165) hx hb dX12_count_158 (by decide) (fun c154 => ?_) (fun c154 => ?_)
                    · have q155 := mm_neL (lo := 0) (mm_ne c154) rv153 mm_km1 (by decide) (by decide)
                      refine lv_iconst (v := 1) hx hb dX12_count_165 (by decide) ?_
                      refine lv_iadd hx hb dX12_count_166 ?_
                      refine lv_topi (fun v156 ev156 => ?_)
                      obtain rfl : v156 = 2 := ev156.trans (by decide)
                      refine lv_istore_n (lv' := [(2, .int 2), (3, .int 3), (0, .ref a_0), (1, .int 9)]) hx hb dX12_count_167 rfl hl (by decide) rfl ?_
                      clear hl
                      clear ls
                      intro ls hl
                      refine lv_iinc (v := 4) (lv' := [(3, .int 4), (2, .int 2), (0, .ref a_0), (1, .int 9)]) hx hb dX12_count_168 hl (k := 1) rfl (by decide) (by decide) rfl ?_
                      clear hl
                      clear ls
                      intro ls hl
                      refine lv_goto (tgt := 145) hx hb dX12_count_171 (by decide) ?_
                      refine lv_iload_n hx hb dX12_count_145 rfl (lv_at hl 0 rfl) ?_
                      refine lv_iconst (v := 4) hx hb dX12_count_146 (by decide) ?_
                      refine lv_icmp_ge (tgt := 174) hx hb dX12_count_147 (by decide) (fun c157 => ?_) (fun c157 => ?_)
                      · refine lv_iload_n hx hb dX12_count_174 rfl (lv_at hl 1 rfl) ?_
                        subst hAe
                        rw [hQ]
                        exact W.iret (v := 2) hx hb hr (fun t ht hW => ⟨⟨2, (), rfl, (mm_wk mm_k2 (by decide)), by rw [ht]; exact hP, hK.warm hW, hD⟩, hS.F ht⟩) hS.2.2 dX12_count_175
                      · have q158 := mm_ltL (h := 3) (mm_nle c157) mm_k4 mm_k4 (by decide)
                        exact mm_no q158 (by decide)
                    · have q159 := mm_eqI (lo := (-1)) (hi := (-1)) c154 rv153 mm_km1 (by decide)
                      refine lv_iconst (v := 0) hx hb dX12_count_161 (by decide) ?_
                      refine lv_goto (tgt := 166) hx hb dX12_count_162 (by decide) ?_
                      refine lv_iadd hx hb dX12_count_166 ?_
                      refine lv_topi (fun v160 ev160 => ?_)
                      obtain rfl : v160 = 1 := ev160.trans (by decide)
                      refine lv_istore_n (lv' := [(2, .int 1), (3, .int 3), (0, .ref a_0), (1, .int 9)]) hx hb dX12_count_167 rfl hl (by decide) rfl ?_
                      clear hl
                      clear ls
                      intro ls hl
                      refine lv_iinc (v := 4) (lv' := [(3, .int 4), (2, .int 1), (0, .ref a_0), (1, .int 9)]) hx hb dX12_count_168 hl (k := 1) rfl (by decide) (by decide) rfl ?_
                      clear hl
                      clear ls
                      intro ls hl
                      refine lv_goto (tgt := 145) hx hb dX12_count_171 (by decide) ?_
                      refine lv_iload_n hx hb dX12_count_145 rfl (lv_at hl 0 rfl) ?_
                      refine lv_iconst (v := 4) hx hb dX12_count_146 (by decide) ?_
                      refine lv_icmp_ge (tgt := 174) hx hb dX12_count_147 (by decide) (fun c161 => ?_) (fun c161 => ?_)
                      · refine lv_iload_n hx hb dX12_count_174 rfl (lv_at hl 1 rfl) ?_
                        subst hAe
                        rw [hQ]
                        exact W.iret (v := 1) hx hb hr (fun t ht hW => ⟨⟨1, (), rfl, (mm_wk mm_k1 (by decide)), by rw [ht]; exact hP, hK.warm hW, hD⟩, hS.F ht⟩) hS.2.2 dX12_count_175
                      · have q162 := mm_ltL (h := 3) (mm_nle c161) mm_k4 mm_k4 (by decide)
                        exact mm_no q162 (by decide)
                · have q163 := mm_eqI (lo := (-1)) (hi := (-1)) c148 rv147 mm_km1 (by decide)
                  refine lv_iconst (v := 0) hx hb dX12_count_161 (by decide) ?_
                  refine lv_goto (tgt := 166) hx hb dX12_count_162 (by decide) ?_
                  refine lv_iadd hx hb dX12_count_166 ?_
                  refine lv_topi (fun v164 ev164 => ?_)
                  obtain rfl : v164 = 0 := ev164.trans (by decide)
                  refine lv_istore_n (lv' := [(2, .int 0), (3, .int 2), (0, .ref a_0), (1, .int 9)]) hx hb dX12_count_167 rfl hl (by decide) rfl ?_
                  clear hl
                  clear ls
                  intro ls hl
                  refine lv_iinc (v := 3) (lv' := [(3, .int 3), (2, .int 0), (0, .ref a_0), (1, .int 9)]) hx hb dX12_count_168 hl (k := 1) rfl (by decide) (by decide) rfl ?_
                  clear hl
                  clear ls
                  intro ls hl
                  refine lv_goto (tgt := 145) hx hb dX12_count_171 (by decide) ?_
                  refine lv_iload_n hx hb dX12_count_145 rfl (lv_at hl 0 rfl) ?_
                  refine lv_iconst (v := 4) hx hb dX12_count_146 (by decide) ?_
                  refine lv_icmp_ge (tgt := 174) hx hb dX12_count_147 (by decide) (fun c165 => ?_) (fun c165 => ?_)
                  · have q166 := mm_leL (mm_le c165) mm_k4 mm_k3
                    exact mm_no q166 (by decide)
                  · refine lv_iload_n hx hb dX12_count_150 rfl (lv_at hl 1 rfl) ?_
                    refine lv_aload_n hx hb dX12_count_151 rfl (lv_at hl 2 rfl) ?_
                    refine va_get (D := G) (ci := 12) (v := .ref a_1) (C := RX12) (T := TX12) (N := 38) hx hb hts (mm_i inlX12) hown hK.1 hP 0 rfl rfl 1 (by decide) (mm_h hts mm_w142) (fun _ h9 => h9) rfl dX12_count_152 ?_
                    refine lv_iload_n hx hb dX12_count_155 rfl (lv_at hl 0 rfl) ?_
                    refine va_iald hx hb hK.1 hP 1 1 rfl rfl (mm_in mm_k3 (by decide)) dX12_count_156 ?_
                    refine lv_topi (fun v167 ev167 => ?_)
                    have rv167 : mm_rg v167 (-1) 3 := mm_eqv ev167 (h1 _)
                    refine lv_iconst (v := (-1)) hx hb dX12_count_157 (by decide) ?_
                    refine lv_icmp_ne (tgt := 165) hx hb dX12_count_158 (by decide) (fun c168 => ?_) (fun c168 => ?_)
                    · have q169 := mm_neL (lo := 0) (mm_ne c168) rv167 mm_km1 (by decide) (by decide)
                      refine lv_iconst (v := 1) hx hb dX12_count_165 (by decide) ?_
                      refine lv_iadd hx hb dX12_count_166 ?_
                      refine lv_topi (fun v170 ev170 => ?_)
                      obtain rfl : v170 = 1 := ev170.trans (by decide)
                      refine lv_istore_n (lv' := [(2, .int 1), (3, .int 3), (0, .ref a_0), (1, .int 9)]) hx hb dX12_count_167 rfl hl (by decide) rfl ?_
                      clear hl
                      clear ls
                      intro ls hl
                      refine lv_iinc (v := 4) (lv' := [(3, .int 4), (2, .int 1), (0, .ref a_0), (1, .int 9)]) hx hb dX12_count_168 hl (k := 1) rfl (by decide) (by decide) rfl ?_
                      clear hl
                      clear ls
                      intro ls hl
                      refine lv_goto (tgt := 145) hx hb dX12_count_171 (by decide) ?_
                      refine lv_iload_n hx hb dX12_count_145 rfl (lv_at hl 0 rfl) ?_
                      refine lv_iconst (v := 4) hx hb dX12_count_146 (by decide) ?_
                      refine lv_icmp_ge (tgt := 174) hx hb dX12_count_147 (by decide) (fun c171 => ?_) (fun c171 => ?_)
                      · refine lv_iload_n hx hb dX12_count_174 rfl (lv_at hl 1 rfl) ?_
                        subst hAe
                        rw [hQ]
                        exact W.iret (v := 1) hx hb hr (fun t ht hW => ⟨⟨1, (), rfl, (mm_wk mm_k1 (by decide)), by rw [ht]; exact hP, hK.warm hW, hD⟩, hS.F ht⟩) hS.2.2 dX12_count_175
                      · have q172 := mm_ltL (h := 3) (mm_nle c171) mm_k4 mm_k4 (by decide)
                        exact mm_no q172 (by decide)
                    · have q173 := mm_eqI (lo := (-1)) (hi := (-1)) c168 rv167 mm_km1 (by decide)
                      refine lv_iconst (v := 0) hx hb dX12_count_161 (by decide) ?_
                      refine lv_goto (tgt := 166) hx hb dX12_count_162 (by decide) ?_
                      refine lv_iadd hx hb dX12_count_166 ?_
                      refine lv_topi (fun v174 ev174 => ?_)
                      obtain rfl : v174 = 0 := ev174.trans (by decide)
                      refine lv_istore_n (lv' := [(2, .int 0), (3, .int 3), (0, .ref a_0), (1, .int 9)]) hx hb dX12_count_167 rfl hl (by decide) rfl ?_
                      clear hl
                      clear ls
                      intro ls hl
                      refine lv_iinc (v := 4) (lv' := [(3, .int 4), (2, .int 0), (0, .ref a_0), (1, .int 9)]) hx hb dX12_count_168 hl (k := 1) rfl (by decide) (by decide) rfl ?_
                      clear hl
                      clear ls
                      intro ls hl
                      refine lv_goto (tgt := 145) hx hb dX12_count_171 (by decide) ?_
                      refine lv_iload_n hx hb dX12_count_145 rfl (lv_at hl 0 rfl) ?_
                      refine lv_iconst (v := 4) hx hb dX12_count_146 (by decide) ?_
                      refine lv_icmp_ge (tgt := 174) hx hb dX12_count_147 (by decide) (fun c175 => ?_) (fun c175 => ?_)
                      · refine lv_iload_n hx hb dX12_count_174 rfl (lv_at hl 1 rfl) ?_
                        subst hAe
                        rw [hQ]
                        exact W.iret (v := 0) hx hb hr (fun t ht hW => ⟨⟨0, (), rfl, (mm_wk mm_k0 (by decide)), by rw [ht]; exact hP, hK.warm hW, hD⟩, hS.F ht⟩) hS.2.2 dX12_count_175
                      · have q176 := mm_ltL (h := 3) (mm_nle c175) mm_k4 mm_k4 (by decide)
                        exact mm_no q176 (by decide)

