theorem dX12_isBook_13 : decode cX12_isBook 13 = .ok (.iconst 0, 1) := by decide +kernel
theorem dX12_isRound_0 : decode cX12_isRound 0 = .ok (.iconst 0, 1) := by decide +kernel
theorem dX12_isRound_1 : decode cX12_isRound 1 = .ok (.istore_n 3, 1) := by decide +kernel
theorem dX12_isRound_2 : decode cX12_isRound 2 = .ok (.iload_n 3, 1) := by decide +kernel
theorem dX12_isRound_3 : decode cX12_isRound 3 = .ok (.aload_n 0, 1) := by decide +kernel
theorem dX12_isRound_4 : decode cX12_isRound 4 = .ok (.getfield 62, 3) := by decide +kernel
theorem dX12_isRound_7 : decode cX12_isRound 7 = .ok (.iload_n 1, 1) := by decide +kernel
theorem dX12_isRound_8 : decode cX12_isRound 8 = .ok (.iaload, 1) := by decide +kernel
theorem dX12_isRound_9 : decode cX12_isRound 9 = .ok (.if_icmp .ge 50, 3) := by decide +kernel
theorem dX12_isRound_12 : decode cX12_isRound 12 = .ok (.iconst 0, 1) := by decide +kernel
theorem dX12_isRound_13 : decode cX12_isRound 13 = .ok (.istore 4, 2) := by decide +kernel
theorem dX12_isRound_15 : decode cX12_isRound 15 = .ok (.iload 4, 2) := by decide +kernel
theorem dX12_isRound_17 : decode cX12_isRound 17 = .ok (.aload_n 0, 1) := by decide +kernel
theorem dX12_isRound_18 : decode cX12_isRound 18 = .ok (.invokevirtual 257, 3) := by decide +kernel
theorem dX12_isRound_21 : decode cX12_isRound 21 = .ok (.if_icmp .ge 32, 3) := by decide +kernel
theorem dX12_isRound_24 : decode cX12_isRound 24 = .ok (.aload_n 0, 1) := by decide +kernel
theorem dX12_isRound_25 : decode cX12_isRound 25 = .ok (.iload_n 1, 1) := by decide +kernel
theorem dX12_isRound_26 : decode cX12_isRound 26 = .ok (.iload_n 3, 1) := by decide +kernel
theorem dX12_isRound_27 : decode cX12_isRound 27 = .ok (.iload 4, 2) := by decide +kernel
theorem dX12_isRound_29 : decode cX12_isRound 29 = .ok (.invokevirtual 289, 3) := by decide +kernel
theorem dX12_isRound_32 : decode cX12_isRound 32 = .ok (.aload_n 0, 1) := by decide +kernel
theorem dX12_isRound_33 : decode cX12_isRound 33 = .ok (.iload_n 1, 1) := by decide +kernel
theorem dX12_isRound_34 : decode cX12_isRound 34 = .ok (.iload_n 3, 1) := by decide +kernel
theorem dX12_isRound_35 : decode cX12_isRound 35 = .ok (.iload_n 2, 1) := by decide +kernel
theorem dX12_isRound_36 : decode cX12_isRound 36 = .ok (.iadd, 1) := by decide +kernel
theorem dX12_isRound_37 : decode cX12_isRound 37 = .ok (.iload 4, 2) := by decide +kernel
theorem dX12_isRound_39 : decode cX12_isRound 39 = .ok (.invokevirtual 289, 3) := by decide +kernel
theorem dX12_isRound_42 : decode cX12_isRound 42 = .ok (.if_icmp .eq 5, 3) := by decide +kernel
theorem dX12_isRound_45 : decode cX12_isRound 45 = .ok (.iconst 0, 1) := by decide +kernel
theorem dX12_isRound_46 : decode cX12_isRound 46 = .ok (.ireturn, 1) := by decide +kernel
theorem dX12_isRound_47 : decode cX12_isRound 47 = .ok (.iinc 4 1, 3) := by decide +kernel
theorem dX12_isRound_50 : decode cX12_isRound 50 = .ok (.goto (-35), 3) := by decide +kernel
theorem dX12_isRound_53 : decode cX12_isRound 53 = .ok (.iinc 3 1, 3) := by decide +kernel
theorem dX12_isRound_56 : decode cX12_isRound 56 = .ok (.goto (-54), 3) := by decide +kernel
theorem dX12_isRound_59 : decode cX12_isRound 59 = .ok (.iconst 1, 1) := by decide +kernel
theorem dX12_isRound_60 : decode cX12_isRound 60 = .ok (.ireturn, 1) := by decide +kernel
theorem dX12_lays_0 : decode cX12_lays 0 = .ok (.iconst 0, 1) := by decide +kernel
theorem dX12_lays_1 : decode cX12_lays 1 = .ok (.istore_n 1, 1) := by decide +kernel
theorem dX12_lays_2 : decode cX12_lays 2 = .ok (.iload_n 1, 1) := by decide +kernel
theorem dX12_lays_3 : decode cX12_lays 3 = .ok (.aload_n 0, 1) := by decide +kernel
theorem dX12_lays_4 : decode cX12_lays 4 = .ok (.getfield 34, 3) := by decide +kernel
theorem dX12_lays_7 : decode cX12_lays 7 = .ok (.iconst 3, 1) := by decide +kernel
theorem dX12_lays_8 : decode cX12_lays 8 = .ok (.iaload, 1) := by decide +kernel
theorem dX12_lays_9 : decode cX12_lays 9 = .ok (.if_icmp .ge 14, 3) := by decide +kernel
theorem dX12_lays_12 : decode cX12_lays 12 = .ok (.aload_n 0, 1) := by decide +kernel
theorem dX12_lays_13 : decode cX12_lays 13 = .ok (.iload_n 1, 1) := by decide +kernel
theorem dX12_lays_14 : decode cX12_lays 14 = .ok (.invokevirtual 293, 3) := by decide +kernel
theorem dX12_lays_17 : decode cX12_lays 17 = .ok (.iinc 1 1, 3) := by decide +kernel
theorem dX12_lays_20 : decode cX12_lays 20 = .ok (.goto (-18), 3) := by decide +kernel
theorem dX12_lays_23 : decode cX12_lays 23 = .ok (.return_, 1) := by decide +kernel
theorem dX12_laysLand_0 : decode cX12_laysLand 0 = .ok (.iconst 0, 1) := by decide +kernel
theorem dX12_laysLand_1 : decode cX12_laysLand 1 = .ok (.istore_n 2, 1) := by decide +kernel
theorem dX12_laysLand_2 : decode cX12_laysLand 2 = .ok (.iload_n 2, 1) := by decide +kernel
theorem dX12_laysLand_3 : decode cX12_laysLand 3 = .ok (.aload_n 0, 1) := by decide +kernel
theorem dX12_laysLand_4 : decode cX12_laysLand 4 = .ok (.invokevirtual 257, 3) := by decide +kernel
theorem dX12_laysLand_7 : decode cX12_laysLand 7 = .ok (.if_icmp .ge 22, 3) := by decide +kernel
theorem dX12_laysLand_10 : decode cX12_laysLand 10 = .ok (.aload_n 0, 1) := by decide +kernel
theorem dX12_laysLand_11 : decode cX12_laysLand 11 = .ok (.getfield 59, 3) := by decide +kernel
theorem dX12_laysLand_14 : decode cX12_laysLand 14 = .ok (.sipush 2400, 3) := by decide +kernel
theorem dX12_laysLand_17 : decode cX12_laysLand 17 = .ok (.iload_n 1, 1) := by decide +kernel
theorem dX12_laysLand_18 : decode cX12_laysLand 18 = .ok (.imul, 1) := by decide +kernel
theorem dX12_laysLand_19 : decode cX12_laysLand 19 = .ok (.iload_n 2, 1) := by decide +kernel
theorem dX12_laysLand_20 : decode cX12_laysLand 20 = .ok (.iadd, 1) := by decide +kernel
theorem dX12_laysLand_21 : decode cX12_laysLand 21 = .ok (.iload_n 2, 1) := by decide +kernel
theorem dX12_laysLand_22 : decode cX12_laysLand 22 = .ok (.iastore, 1) := by decide +kernel
theorem dX12_laysLand_23 : decode cX12_laysLand 23 = .ok (.iinc 2 1, 3) := by decide +kernel
theorem dX12_laysLand_26 : decode cX12_laysLand 26 = .ok (.goto (-24), 3) := by decide +kernel
theorem dX12_laysLand_29 : decode cX12_laysLand 29 = .ok (.iconst 0, 1) := by decide +kernel
theorem dX12_laysLand_30 : decode cX12_laysLand 30 = .ok (.istore_n 2, 1) := by decide +kernel
theorem dX12_laysLand_31 : decode cX12_laysLand 31 = .ok (.iload_n 2, 1) := by decide +kernel
theorem dX12_laysLand_32 : decode cX12_laysLand 32 = .ok (.aload_n 0, 1) := by decide +kernel
theorem dX12_laysLand_33 : decode cX12_laysLand 33 = .ok (.getfield 34, 3) := by decide +kernel
theorem dX12_laysLand_36 : decode cX12_laysLand 36 = .ok (.iconst 5, 1) := by decide +kernel
theorem dX12_laysLand_37 : decode cX12_laysLand 37 = .ok (.iaload, 1) := by decide +kernel
theorem dX12_laysLand_38 : decode cX12_laysLand 38 = .ok (.if_icmp .ge 89, 3) := by decide +kernel
theorem dX12_laysLand_41 : decode cX12_laysLand 41 = .ok (.aload_n 0, 1) := by decide +kernel
theorem dX12_laysLand_42 : decode cX12_laysLand 42 = .ok (.getfield 52, 3) := by decide +kernel
theorem dX12_laysLand_45 : decode cX12_laysLand 45 = .ok (.iconst 3, 1) := by decide +kernel
theorem dX12_laysLand_46 : decode cX12_laysLand 46 = .ok (.iload_n 2, 1) := by decide +kernel
theorem dX12_laysLand_47 : decode cX12_laysLand 47 = .ok (.imul, 1) := by decide +kernel
theorem dX12_laysLand_48 : decode cX12_laysLand 48 = .ok (.iaload, 1) := by decide +kernel
theorem dX12_laysLand_49 : decode cX12_laysLand 49 = .ok (.iload_n 1, 1) := by decide +kernel
theorem dX12_laysLand_50 : decode cX12_laysLand 50 = .ok (.if_icmp .eq 6, 3) := by decide +kernel
theorem dX12_laysLand_53 : decode cX12_laysLand 53 = .ok (.goto 68, 3) := by decide +kernel
theorem dX12_laysLand_56 : decode cX12_laysLand 56 = .ok (.sipush 2400, 3) := by decide +kernel
theorem dX12_laysLand_59 : decode cX12_laysLand 59 = .ok (.iload_n 1, 1) := by decide +kernel
theorem dX12_laysLand_60 : decode cX12_laysLand 60 = .ok (.imul, 1) := by decide +kernel
theorem dX12_laysLand_61 : decode cX12_laysLand 61 = .ok (.aload_n 0, 1) := by decide +kernel
theorem dX12_laysLand_62 : decode cX12_laysLand 62 = .ok (.getfield 52, 3) := by decide +kernel
theorem dX12_laysLand_65 : decode cX12_laysLand 65 = .ok (.iconst 3, 1) := by decide +kernel
theorem dX12_laysLand_66 : decode cX12_laysLand 66 = .ok (.iload_n 2, 1) := by decide +kernel
theorem dX12_laysLand_67 : decode cX12_laysLand 67 = .ok (.imul, 1) := by decide +kernel
theorem dX12_laysLand_68 : decode cX12_laysLand 68 = .ok (.iconst 1, 1) := by decide +kernel
theorem dX12_laysLand_69 : decode cX12_laysLand 69 = .ok (.iadd, 1) := by decide +kernel
theorem dX12_laysLand_70 : decode cX12_laysLand 70 = .ok (.iaload, 1) := by decide +kernel
theorem dX12_laysLand_71 : decode cX12_laysLand 71 = .ok (.iadd, 1) := by decide +kernel
theorem dX12_laysLand_72 : decode cX12_laysLand 72 = .ok (.istore_n 3, 1) := by decide +kernel
theorem dX12_laysLand_73 : decode cX12_laysLand 73 = .ok (.sipush 2400, 3) := by decide +kernel
theorem dX12_laysLand_76 : decode cX12_laysLand 76 = .ok (.iload_n 1, 1) := by decide +kernel
theorem dX12_laysLand_77 : decode cX12_laysLand 77 = .ok (.imul, 1) := by decide +kernel
theorem dX12_laysLand_78 : decode cX12_laysLand 78 = .ok (.aload_n 0, 1) := by decide +kernel
theorem dX12_laysLand_79 : decode cX12_laysLand 79 = .ok (.getfield 52, 3) := by decide +kernel
theorem dX12_laysLand_82 : decode cX12_laysLand 82 = .ok (.iconst 3, 1) := by decide +kernel
theorem dX12_laysLand_83 : decode cX12_laysLand 83 = .ok (.iload_n 2, 1) := by decide +kernel
theorem dX12_laysLand_84 : decode cX12_laysLand 84 = .ok (.imul, 1) := by decide +kernel
theorem dX12_laysLand_85 : decode cX12_laysLand 85 = .ok (.iconst 2, 1) := by decide +kernel
theorem dX12_laysLand_86 : decode cX12_laysLand 86 = .ok (.iadd, 1) := by decide +kernel
theorem dX12_laysLand_87 : decode cX12_laysLand 87 = .ok (.iaload, 1) := by decide +kernel
theorem dX12_laysLand_88 : decode cX12_laysLand 88 = .ok (.iadd, 1) := by decide +kernel
theorem dX12_laysLand_89 : decode cX12_laysLand 89 = .ok (.istore 4, 2) := by decide +kernel
theorem dX12_laysLand_91 : decode cX12_laysLand 91 = .ok (.aload_n 0, 1) := by decide +kernel
theorem dX12_laysLand_92 : decode cX12_laysLand 92 = .ok (.getfield 59, 3) := by decide +kernel
theorem dX12_laysLand_95 : decode cX12_laysLand 95 = .ok (.iload_n 3, 1) := by decide +kernel
theorem dX12_laysLand_96 : decode cX12_laysLand 96 = .ok (.iaload, 1) := by decide +kernel
theorem dX12_laysLand_97 : decode cX12_laysLand 97 = .ok (.istore 5, 2) := by decide +kernel
theorem dX12_laysLand_99 : decode cX12_laysLand 99 = .ok (.aload_n 0, 1) := by decide +kernel
theorem dX12_laysLand_100 : decode cX12_laysLand 100 = .ok (.getfield 59, 3) := by decide +kernel
theorem dX12_laysLand_103 : decode cX12_laysLand 103 = .ok (.iload_n 3, 1) := by decide +kernel
theorem dX12_laysLand_104 : decode cX12_laysLand 104 = .ok (.aload_n 0, 1) := by decide +kernel
theorem dX12_laysLand_105 : decode cX12_laysLand 105 = .ok (.getfield 59, 3) := by decide +kernel
theorem dX12_laysLand_108 : decode cX12_laysLand 108 = .ok (.iload 4, 2) := by decide +kernel
theorem dX12_laysLand_110 : decode cX12_laysLand 110 = .ok (.iaload, 1) := by decide +kernel
theorem dX12_laysLand_111 : decode cX12_laysLand 111 = .ok (.iastore, 1) := by decide +kernel
theorem dX12_laysLand_112 : decode cX12_laysLand 112 = .ok (.aload_n 0, 1) := by decide +kernel
theorem dX12_laysLand_113 : decode cX12_laysLand 113 = .ok (.getfield 59, 3) := by decide +kernel
theorem dX12_laysLand_116 : decode cX12_laysLand 116 = .ok (.iload 4, 2) := by decide +kernel
theorem dX12_laysLand_118 : decode cX12_laysLand 118 = .ok (.iload 5, 2) := by decide +kernel
theorem dX12_laysLand_120 : decode cX12_laysLand 120 = .ok (.iastore, 1) := by decide +kernel
theorem dX12_laysLand_121 : decode cX12_laysLand 121 = .ok (.iinc 2 1, 3) := by decide +kernel
theorem dX12_laysLand_124 : decode cX12_laysLand 124 = .ok (.goto (-93), 3) := by decide +kernel
theorem dX12_laysLand_127 : decode cX12_laysLand 127 = .ok (.aload_n 0, 1) := by decide +kernel
theorem dX12_laysLand_128 : decode cX12_laysLand 128 = .ok (.getfield 62, 3) := by decide +kernel
theorem dX12_laysLand_131 : decode cX12_laysLand 131 = .ok (.iload_n 1, 1) := by decide +kernel
theorem dX12_laysLand_132 : decode cX12_laysLand 132 = .ok (.aload_n 0, 1) := by decide +kernel
theorem dX12_laysLand_133 : decode cX12_laysLand 133 = .ok (.getfield 40, 3) := by decide +kernel
theorem dX12_laysLand_136 : decode cX12_laysLand 136 = .ok (.iload_n 1, 1) := by decide +kernel
theorem dX12_laysLand_137 : decode cX12_laysLand 137 = .ok (.iaload, 1) := by decide +kernel
theorem dX12_laysLand_138 : decode cX12_laysLand 138 = .ok (.ifCond .ne 7, 3) := by decide +kernel
theorem dX12_laysLand_141 : decode cX12_laysLand 141 = .ok (.iconst 1, 1) := by decide +kernel
theorem dX12_laysLand_142 : decode cX12_laysLand 142 = .ok (.goto 15, 3) := by decide +kernel
theorem dX12_laysLand_145 : decode cX12_laysLand 145 = .ok (.aload_n 0, 1) := by decide +kernel
theorem dX12_laysLand_146 : decode cX12_laysLand 146 = .ok (.getfield 40, 3) := by decide +kernel
theorem dX12_laysLand_149 : decode cX12_laysLand 149 = .ok (.iload_n 1, 1) := by decide +kernel
theorem dX12_laysLand_150 : decode cX12_laysLand 150 = .ok (.iaload, 1) := by decide +kernel
theorem dX12_laysLand_151 : decode cX12_laysLand 151 = .ok (.aload_n 0, 1) := by decide +kernel
theorem dX12_laysLand_152 : decode cX12_laysLand 152 = .ok (.iload_n 1, 1) := by decide +kernel
theorem dX12_laysLand_153 : decode cX12_laysLand 153 = .ok (.invokevirtual 282, 3) := by decide +kernel
theorem dX12_laysLand_156 : decode cX12_laysLand 156 = .ok (.imul, 1) := by decide +kernel
theorem dX12_laysLand_157 : decode cX12_laysLand 157 = .ok (.iastore, 1) := by decide +kernel
theorem dX12_laysLand_158 : decode cX12_laysLand 158 = .ok (.iconst 0, 1) := by decide +kernel
theorem dX12_laysLand_159 : decode cX12_laysLand 159 = .ok (.istore_n 2, 1) := by decide +kernel
theorem dX12_laysLand_160 : decode cX12_laysLand 160 = .ok (.iload_n 2, 1) := by decide +kernel
theorem dX12_laysLand_161 : decode cX12_laysLand 161 = .ok (.iconst 1, 1) := by decide +kernel
theorem dX12_laysLand_162 : decode cX12_laysLand 162 = .ok (.iadd, 1) := by decide +kernel
theorem dX12_laysLand_163 : decode cX12_laysLand 163 = .ok (.aload_n 0, 1) := by decide +kernel
theorem dX12_laysLand_164 : decode cX12_laysLand 164 = .ok (.getfield 62, 3) := by decide +kernel
theorem dX12_laysLand_167 : decode cX12_laysLand 167 = .ok (.iload_n 1, 1) := by decide +kernel
theorem dX12_laysLand_168 : decode cX12_laysLand 168 = .ok (.iaload, 1) := by decide +kernel
theorem dX12_laysLand_169 : decode cX12_laysLand 169 = .ok (.if_icmp .ge 89, 3) := by decide +kernel
theorem dX12_laysLand_172 : decode cX12_laysLand 172 = .ok (.bipush 10, 2) := by decide +kernel
theorem dX12_laysLand_174 : decode cX12_laysLand 174 = .ok (.bipush 7, 2) := by decide +kernel
theorem dX12_laysLand_176 : decode cX12_laysLand 176 = .ok (.iload_n 1, 1) := by decide +kernel
theorem dX12_laysLand_177 : decode cX12_laysLand 177 = .ok (.imul, 1) := by decide +kernel
theorem dX12_laysLand_178 : decode cX12_laysLand 178 = .ok (.iload_n 2, 1) := by decide +kernel
theorem dX12_laysLand_179 : decode cX12_laysLand 179 = .ok (.aload_n 0, 1) := by decide +kernel
theorem dX12_laysLand_180 : decode cX12_laysLand 180 = .ok (.getfield 40, 3) := by decide +kernel
theorem dX12_laysLand_183 : decode cX12_laysLand 183 = .ok (.iload_n 1, 1) := by decide +kernel
theorem dX12_laysLand_184 : decode cX12_laysLand 184 = .ok (.iaload, 1) := by decide +kernel
theorem dX12_laysLand_185 : decode cX12_laysLand 185 = .ok (.irem, 1) := by decide +kernel
theorem dX12_laysLand_186 : decode cX12_laysLand 186 = .ok (.iadd, 1) := by decide +kernel
theorem dX12_laysLand_187 : decode cX12_laysLand 187 = .ok (.imul, 1) := by decide +kernel
theorem dX12_laysLand_188 : decode cX12_laysLand 188 = .ok (.istore_n 3, 1) := by decide +kernel
theorem dX12_laysLand_189 : decode cX12_laysLand 189 = .ok (.iconst 0, 1) := by decide +kernel
theorem dX12_laysLand_190 : decode cX12_laysLand 190 = .ok (.istore 4, 2) := by decide +kernel
theorem dX12_laysLand_192 : decode cX12_laysLand 192 = .ok (.iload 4, 2) := by decide +kernel
theorem dX12_laysLand_194 : decode cX12_laysLand 194 = .ok (.aload_n 0, 1) := by decide +kernel
theorem dX12_laysLand_195 : decode cX12_laysLand 195 = .ok (.invokevirtual 257, 3) := by decide +kernel
theorem dX12_laysLand_198 : decode cX12_laysLand 198 = .ok (.if_icmp .ge 54, 3) := by decide +kernel
theorem dX12_laysLand_201 : decode cX12_laysLand 201 = .ok (.aload_n 0, 1) := by decide +kernel
theorem dX12_laysLand_202 : decode cX12_laysLand 202 = .ok (.getfield 59, 3) := by decide +kernel
theorem dX12_laysLand_205 : decode cX12_laysLand 205 = .ok (.sipush 2400, 3) := by decide +kernel
theorem dX12_laysLand_208 : decode cX12_laysLand 208 = .ok (.iload_n 1, 1) := by decide +kernel
theorem dX12_laysLand_209 : decode cX12_laysLand 209 = .ok (.imul, 1) := by decide +kernel
theorem dX12_laysLand_210 : decode cX12_laysLand 210 = .ok (.bipush 10, 2) := by decide +kernel
theorem dX12_laysLand_212 : decode cX12_laysLand 212 = .ok (.iload_n 2, 1) := by decide +kernel
theorem dX12_laysLand_213 : decode cX12_laysLand 213 = .ok (.iconst 1, 1) := by decide +kernel
theorem dX12_laysLand_214 : decode cX12_laysLand 214 = .ok (.iadd, 1) := by decide +kernel
theorem dX12_laysLand_215 : decode cX12_laysLand 215 = .ok (.imul, 1) := by decide +kernel
theorem dX12_laysLand_216 : decode cX12_laysLand 216 = .ok (.iadd, 1) := by decide +kernel
theorem dX12_laysLand_217 : decode cX12_laysLand 217 = .ok (.iload 4, 2) := by decide +kernel
theorem dX12_laysLand_219 : decode cX12_laysLand 219 = .ok (.iadd, 1) := by decide +kernel
theorem dX12_laysLand_220 : decode cX12_laysLand 220 = .ok (.aload_n 0, 1) := by decide +kernel
theorem dX12_laysLand_221 : decode cX12_laysLand 221 = .ok (.getfield 59, 3) := by decide +kernel
theorem dX12_laysLand_224 : decode cX12_laysLand 224 = .ok (.sipush 2400, 3) := by decide +kernel
theorem dX12_laysLand_227 : decode cX12_laysLand 227 = .ok (.iload_n 1, 1) := by decide +kernel
theorem dX12_laysLand_228 : decode cX12_laysLand 228 = .ok (.imul, 1) := by decide +kernel
theorem dX12_laysLand_229 : decode cX12_laysLand 229 = .ok (.bipush 10, 2) := by decide +kernel
theorem dX12_laysLand_231 : decode cX12_laysLand 231 = .ok (.iload_n 2, 1) := by decide +kernel
theorem dX12_laysLand_232 : decode cX12_laysLand 232 = .ok (.imul, 1) := by decide +kernel
theorem dX12_laysLand_233 : decode cX12_laysLand 233 = .ok (.iadd, 1) := by decide +kernel
theorem dX12_laysLand_234 : decode cX12_laysLand 234 = .ok (.aload_n 0, 1) := by decide +kernel
theorem dX12_laysLand_235 : decode cX12_laysLand 235 = .ok (.getfield 43, 3) := by decide +kernel
theorem dX12_laysLand_238 : decode cX12_laysLand 238 = .ok (.iload_n 3, 1) := by decide +kernel
theorem dX12_laysLand_239 : decode cX12_laysLand 239 = .ok (.iload 4, 2) := by decide +kernel
theorem dX12_laysLand_241 : decode cX12_laysLand 241 = .ok (.iadd, 1) := by decide +kernel
theorem dX12_laysLand_242 : decode cX12_laysLand 242 = .ok (.iaload, 1) := by decide +kernel
theorem dX12_laysLand_243 : decode cX12_laysLand 243 = .ok (.iadd, 1) := by decide +kernel
theorem dX12_laysLand_244 : decode cX12_laysLand 244 = .ok (.iaload, 1) := by decide +kernel
theorem dX12_laysLand_245 : decode cX12_laysLand 245 = .ok (.iastore, 1) := by decide +kernel
theorem dX12_laysLand_246 : decode cX12_laysLand 246 = .ok (.iinc 4 1, 3) := by decide +kernel
theorem dX12_laysLand_249 : decode cX12_laysLand 249 = .ok (.goto (-57), 3) := by decide +kernel
theorem dX12_laysLand_252 : decode cX12_laysLand 252 = .ok (.iinc 2 1, 3) := by decide +kernel
theorem dX12_laysLand_255 : decode cX12_laysLand 255 = .ok (.goto (-95), 3) := by decide +kernel
theorem dX12_laysLand_258 : decode cX12_laysLand 258 = .ok (.aload_n 0, 1) := by decide +kernel
theorem dX12_laysLand_259 : decode cX12_laysLand 259 = .ok (.getfield 65, 3) := by decide +kernel
theorem dX12_laysLand_262 : decode cX12_laysLand 262 = .ok (.iload_n 1, 1) := by decide +kernel
theorem dX12_laysLand_263 : decode cX12_laysLand 263 = .ok (.iconst 1, 1) := by decide +kernel
theorem dX12_laysLand_264 : decode cX12_laysLand 264 = .ok (.iastore, 1) := by decide +kernel
theorem dX12_laysLand_265 : decode cX12_laysLand 265 = .ok (.aload_n 0, 1) := by decide +kernel
theorem dX12_laysLand_266 : decode cX12_laysLand 266 = .ok (.iload_n 1, 1) := by decide +kernel
theorem dX12_laysLand_267 : decode cX12_laysLand 267 = .ok (.aload_n 0, 1) := by decide +kernel
theorem dX12_laysLand_268 : decode cX12_laysLand 268 = .ok (.getfield 65, 3) := by decide +kernel
theorem dX12_laysLand_271 : decode cX12_laysLand 271 = .ok (.iload_n 1, 1) := by decide +kernel
theorem dX12_laysLand_272 : decode cX12_laysLand 272 = .ok (.iaload, 1) := by decide +kernel
theorem dX12_laysLand_273 : decode cX12_laysLand 273 = .ok (.invokevirtual 285, 3) := by decide +kernel
theorem dX12_laysLand_276 : decode cX12_laysLand 276 = .ok (.ifCond .ne 16, 3) := by decide +kernel
theorem dX12_laysLand_279 : decode cX12_laysLand 279 = .ok (.aload_n 0, 1) := by decide +kernel
theorem dX12_laysLand_280 : decode cX12_laysLand 280 = .ok (.getfield 65, 3) := by decide +kernel
theorem dX12_laysLand_283 : decode cX12_laysLand 283 = .ok (.iload_n 1, 1) := by decide +kernel
theorem dX12_laysLand_284 : decode cX12_laysLand 284 = .ok (.dup2, 1) := by decide +kernel
theorem dX12_laysLand_285 : decode cX12_laysLand 285 = .ok (.iaload, 1) := by decide +kernel
theorem dX12_laysLand_286 : decode cX12_laysLand 286 = .ok (.iconst 1, 1) := by decide +kernel
theorem dX12_laysLand_287 : decode cX12_laysLand 287 = .ok (.iadd, 1) := by decide +kernel
theorem dX12_laysLand_288 : decode cX12_laysLand 288 = .ok (.iastore, 1) := by decide +kernel
theorem dX12_laysLand_289 : decode cX12_laysLand 289 = .ok (.goto (-24), 3) := by decide +kernel
theorem dX12_laysLand_292 : decode cX12_laysLand 292 = .ok (.return_, 1) := by decide +kernel
theorem dX12_may_0 : decode cX12_may 0 = .ok (.aload_n 0, 1) := by decide +kernel
theorem dX12_may_1 : decode cX12_may 1 = .ok (.iconst 0, 1) := by decide +kernel
theorem dX12_may_2 : decode cX12_may 2 = .ok (.putfield 77, 3) := by decide +kernel
theorem dX12_may_5 : decode cX12_may 5 = .ok (.aload_n 0, 1) := by decide +kernel
theorem dX12_may_6 : decode cX12_may 6 = .ok (.iload_n 1, 1) := by decide +kernel
theorem dX12_may_7 : decode cX12_may 7 = .ok (.invokevirtual 265, 3) := by decide +kernel
theorem dX12_may_10 : decode cX12_may 10 = .ok (.ifCond .eq 11, 3) := by decide +kernel
theorem dX12_may_13 : decode cX12_may 13 = .ok (.aload_n 0, 1) := by decide +kernel
theorem dX12_may_14 : decode cX12_may 14 = .ok (.iload_n 2, 1) := by decide +kernel
theorem dX12_may_15 : decode cX12_may 15 = .ok (.invokevirtual 320, 3) := by decide +kernel
theorem dX12_may_18 : decode cX12_may 18 = .ok (.ifCond .ne 6, 3) := by decide +kernel
theorem dX12_may_21 : decode cX12_may 21 = .ok (.bipush (-2), 2) := by decide +kernel
theorem dX12_may_23 : decode cX12_may 23 = .ok (.ireturn, 1) := by decide +kernel
theorem dX12_may_24 : decode cX12_may 24 = .ok (.aload_n 0, 1) := by decide +kernel
theorem dX12_may_25 : decode cX12_may 25 = .ok (.invokevirtual 326, 3) := by decide +kernel
theorem dX12_may_28 : decode cX12_may 28 = .ok (.iconst 0, 1) := by decide +kernel
theorem dX12_may_29 : decode cX12_may 29 = .ok (.istore_n 3, 1) := by decide +kernel
theorem dX12_may_30 : decode cX12_may 30 = .ok (.iconst 0, 1) := by decide +kernel
theorem dX12_may_31 : decode cX12_may 31 = .ok (.istore 4, 2) := by decide +kernel
theorem dX12_may_33 : decode cX12_may 33 = .ok (.iload 4, 2) := by decide +kernel
theorem dX12_may_35 : decode cX12_may 35 = .ok (.aload_n 0, 1) := by decide +kernel
theorem dX12_may_36 : decode cX12_may 36 = .ok (.invokevirtual 257, 3) := by decide +kernel
theorem dX12_may_39 : decode cX12_may 39 = .ok (.if_icmp .ge 31, 3) := by decide +kernel
theorem dX12_may_42 : decode cX12_may 42 = .ok (.iload_n 3, 1) := by decide +kernel
theorem dX12_may_43 : decode cX12_may 43 = .ok (.aload_n 0, 1) := by decide +kernel
theorem dX12_may_44 : decode cX12_may 44 = .ok (.iload_n 1, 1) := by decide +kernel
theorem dX12_may_45 : decode cX12_may 45 = .ok (.iload 4, 2) := by decide +kernel
theorem dX12_may_47 : decode cX12_may 47 = .ok (.iload_n 2, 1) := by decide +kernel
theorem dX12_may_48 : decode cX12_may 48 = .ok (.invokevirtual 332, 3) := by decide +kernel
theorem dX12_may_51 : decode cX12_may 51 = .ok (.ifCond .le 10, 3) := by decide +kernel
theorem dX12_may_54 : decode cX12_may 54 = .ok (.iconst 1, 1) := by decide +kernel
theorem dX12_may_55 : decode cX12_may 55 = .ok (.iload 4, 2) := by decide +kernel
theorem dX12_may_57 : decode cX12_may 57 = .ok (.ishl, 1) := by decide +kernel
theorem dX12_may_58 : decode cX12_may 58 = .ok (.goto 4, 3) := by decide +kernel
theorem dX12_may_61 : decode cX12_may 61 = .ok (.iconst 0, 1) := by decide +kernel
theorem dX12_may_62 : decode cX12_may 62 = .ok (.ior, 1) := by decide +kernel
theorem dX12_may_63 : decode cX12_may 63 = .ok (.istore_n 3, 1) := by decide +kernel
theorem dX12_may_64 : decode cX12_may 64 = .ok (.iinc 4 1, 3) := by decide +kernel
theorem dX12_may_67 : decode cX12_may 67 = .ok (.goto (-34), 3) := by decide +kernel
theorem dX12_may_70 : decode cX12_may 70 = .ok (.iload_n 3, 1) := by decide +kernel
theorem dX12_may_71 : decode cX12_may 71 = .ok (.ireturn, 1) := by decide +kernel
theorem dX12_means_0 : decode cX12_means 0 = .ok (.aload_n 0, 1) := by decide +kernel
theorem dX12_means_1 : decode cX12_means 1 = .ok (.iconst 0, 1) := by decide +kernel
theorem dX12_means_2 : decode cX12_means 2 = .ok (.putfield 77, 3) := by decide +kernel
theorem dX12_means_5 : decode cX12_means 5 = .ok (.aload_n 0, 1) := by decide +kernel
theorem dX12_means_6 : decode cX12_means 6 = .ok (.iload_n 1, 1) := by decide +kernel
theorem dX12_means_7 : decode cX12_means 7 = .ok (.iload_n 2, 1) := by decide +kernel
theorem dX12_means_8 : decode cX12_means 8 = .ok (.invokevirtual 323, 3) := by decide +kernel
theorem dX12_means_11 : decode cX12_means 11 = .ok (.ifCond .eq 11, 3) := by decide +kernel
theorem dX12_means_14 : decode cX12_means 14 = .ok (.aload_n 0, 1) := by decide +kernel
theorem dX12_means_15 : decode cX12_means 15 = .ok (.iload_n 3, 1) := by decide +kernel
theorem dX12_means_16 : decode cX12_means 16 = .ok (.invokevirtual 320, 3) := by decide +kernel
theorem dX12_means_19 : decode cX12_means 19 = .ok (.ifCond .ne 6, 3) := by decide +kernel
theorem dX12_means_22 : decode cX12_means 22 = .ok (.bipush (-2), 2) := by decide +kernel
theorem dX12_means_24 : decode cX12_means 24 = .ok (.ireturn, 1) := by decide +kernel
theorem dX12_means_25 : decode cX12_means 25 = .ok (.aload_n 0, 1) := by decide +kernel
theorem dX12_means_26 : decode cX12_means 26 = .ok (.invokevirtual 326, 3) := by decide +kernel
theorem dX12_means_29 : decode cX12_means 29 = .ok (.aload_n 0, 1) := by decide +kernel
theorem dX12_means_30 : decode cX12_means 30 = .ok (.iload_n 1, 1) := by decide +kernel
theorem dX12_means_31 : decode cX12_means 31 = .ok (.iload_n 2, 1) := by decide +kernel
theorem dX12_means_32 : decode cX12_means 32 = .ok (.iload_n 3, 1) := by decide +kernel
theorem dX12_means_33 : decode cX12_means 33 = .ok (.invokevirtual 289, 3) := by decide +kernel
theorem dX12_means_36 : decode cX12_means 36 = .ok (.ireturn, 1) := by decide +kernel
theorem dX12_means0_0 : decode cX12_means0 0 = .ok (.aload_n 0, 1) := by decide +kernel
theorem dX12_means0_1 : decode cX12_means0 1 = .ok (.getfield 59, 3) := by decide +kernel
theorem dX12_means0_4 : decode cX12_means0 4 = .ok (.sipush 2400, 3) := by decide +kernel
theorem dX12_means0_7 : decode cX12_means0 7 = .ok (.iload_n 1, 1) := by decide +kernel
theorem dX12_means0_8 : decode cX12_means0 8 = .ok (.imul, 1) := by decide +kernel
theorem dX12_means0_9 : decode cX12_means0 9 = .ok (.bipush 10, 2) := by decide +kernel
theorem dX12_means0_11 : decode cX12_means0 11 = .ok (.iload_n 2, 1) := by decide +kernel
theorem dX12_means0_12 : decode cX12_means0 12 = .ok (.aload_n 0, 1) := by decide +kernel
theorem dX12_means0_13 : decode cX12_means0 13 = .ok (.getfield 62, 3) := by decide +kernel
theorem dX12_means0_16 : decode cX12_means0 16 = .ok (.iload_n 1, 1) := by decide +kernel
theorem dX12_means0_17 : decode cX12_means0 17 = .ok (.iaload, 1) := by decide +kernel
theorem dX12_means0_18 : decode cX12_means0 18 = .ok (.irem, 1) := by decide +kernel
theorem dX12_means0_19 : decode cX12_means0 19 = .ok (.imul, 1) := by decide +kernel
theorem dX12_means0_20 : decode cX12_means0 20 = .ok (.iadd, 1) := by decide +kernel
theorem dX12_means0_21 : decode cX12_means0 21 = .ok (.iload_n 3, 1) := by decide +kernel
theorem dX12_means0_22 : decode cX12_means0 22 = .ok (.iadd, 1) := by decide +kernel
theorem dX12_means0_23 : decode cX12_means0 23 = .ok (.iaload, 1) := by decide +kernel
theorem dX12_means0_24 : decode cX12_means0 24 = .ok (.ireturn, 1) := by decide +kernel
theorem dX12_mute_0 : decode cX12_mute 0 = .ok (.aload_n 0, 1) := by decide +kernel
theorem dX12_mute_1 : decode cX12_mute 1 = .ok (.iconst 0, 1) := by decide +kernel
theorem dX12_mute_2 : decode cX12_mute 2 = .ok (.putfield 77, 3) := by decide +kernel
theorem dX12_mute_5 : decode cX12_mute 5 = .ok (.aload_n 0, 1) := by decide +kernel
theorem dX12_mute_6 : decode cX12_mute 6 = .ok (.iload_n 1, 1) := by decide +kernel
theorem dX12_mute_7 : decode cX12_mute 7 = .ok (.invokevirtual 265, 3) := by decide +kernel
theorem dX12_mute_10 : decode cX12_mute 10 = .ok (.ifCond .ne 6, 3) := by decide +kernel
theorem dX12_mute_13 : decode cX12_mute 13 = .ok (.bipush (-2), 2) := by decide +kernel
theorem dX12_mute_15 : decode cX12_mute 15 = .ok (.ireturn, 1) := by decide +kernel
theorem dX12_mute_16 : decode cX12_mute 16 = .ok (.aload_n 0, 1) := by decide +kernel
theorem dX12_mute_17 : decode cX12_mute 17 = .ok (.invokevirtual 326, 3) := by decide +kernel
theorem dX12_mute_20 : decode cX12_mute 20 = .ok (.aload_n 0, 1) := by decide +kernel
theorem dX12_mute_21 : decode cX12_mute 21 = .ok (.iload_n 1, 1) := by decide +kernel
theorem dX12_mute_22 : decode cX12_mute 22 = .ok (.aload_n 0, 1) := by decide +kernel
theorem dX12_mute_23 : decode cX12_mute 23 = .ok (.iload_n 1, 1) := by decide +kernel
theorem dX12_mute_24 : decode cX12_mute 24 = .ok (.invokevirtual 335, 3) := by decide +kernel
theorem dX12_mute_27 : decode cX12_mute 27 = .ok (.aload_n 0, 1) := by decide +kernel
theorem dX12_mute_28 : decode cX12_mute 28 = .ok (.invokevirtual 254, 3) := by decide +kernel
theorem dX12_mute_31 : decode cX12_mute 31 = .ok (.invokevirtual 332, 3) := by decide +kernel
theorem dX12_mute_34 : decode cX12_mute 34 = .ok (.ireturn, 1) := by decide +kernel
theorem dX12_mutedOf_0 : decode cX12_mutedOf 0 = .ok (.iconst 0, 1) := by decide +kernel
theorem dX12_mutedOf_1 : decode cX12_mutedOf 1 = .ok (.istore_n 2, 1) := by decide +kernel
theorem dX12_mutedOf_2 : decode cX12_mutedOf 2 = .ok (.iconst 0, 1) := by decide +kernel
theorem dX12_mutedOf_3 : decode cX12_mutedOf 3 = .ok (.istore_n 3, 1) := by decide +kernel
theorem dX12_mutedOf_4 : decode cX12_mutedOf 4 = .ok (.iload_n 3, 1) := by decide +kernel
theorem dX12_mutedOf_5 : decode cX12_mutedOf 5 = .ok (.aload_n 0, 1) := by decide +kernel
theorem dX12_mutedOf_6 : decode cX12_mutedOf 6 = .ok (.invokevirtual 257, 3) := by decide +kernel
theorem dX12_mutedOf_9 : decode cX12_mutedOf 9 = .ok (.if_icmp .ge 34, 3) := by decide +kernel
theorem dX12_mutedOf_12 : decode cX12_mutedOf 12 = .ok (.aload_n 0, 1) := by decide +kernel
theorem dX12_mutedOf_13 : decode cX12_mutedOf 13 = .ok (.iload_n 1, 1) := by decide +kernel
theorem dX12_mutedOf_14 : decode cX12_mutedOf 14 = .ok (.iload_n 3, 1) := by decide +kernel
theorem dX12_mutedOf_15 : decode cX12_mutedOf 15 = .ok (.aload_n 0, 1) := by decide +kernel
theorem dX12_mutedOf_16 : decode cX12_mutedOf 16 = .ok (.invokevirtual 254, 3) := by decide +kernel
theorem dX12_mutedOf_19 : decode cX12_mutedOf 19 = .ok (.invokevirtual 332, 3) := by decide +kernel
theorem dX12_mutedOf_22 : decode cX12_mutedOf 22 = .ok (.aload_n 0, 1) := by decide +kernel
theorem dX12_mutedOf_23 : decode cX12_mutedOf 23 = .ok (.iload_n 1, 1) := by decide +kernel
theorem dX12_mutedOf_24 : decode cX12_mutedOf 24 = .ok (.iload_n 2, 1) := by decide +kernel
theorem dX12_mutedOf_25 : decode cX12_mutedOf 25 = .ok (.aload_n 0, 1) := by decide +kernel
theorem dX12_mutedOf_26 : decode cX12_mutedOf 26 = .ok (.invokevirtual 254, 3) := by decide +kernel
theorem dX12_mutedOf_29 : decode cX12_mutedOf 29 = .ok (.invokevirtual 332, 3) := by decide +kernel
theorem dX12_mutedOf_32 : decode cX12_mutedOf 32 = .ok (.if_icmp .le 5, 3) := by decide +kernel
theorem dX12_mutedOf_35 : decode cX12_mutedOf 35 = .ok (.iload_n 3, 1) := by decide +kernel
theorem dX12_mutedOf_36 : decode cX12_mutedOf 36 = .ok (.istore_n 2, 1) := by decide +kernel
theorem dX12_mutedOf_37 : decode cX12_mutedOf 37 = .ok (.iinc 3 1, 3) := by decide +kernel
theorem dX12_mutedOf_40 : decode cX12_mutedOf 40 = .ok (.goto (-36), 3) := by decide +kernel
theorem dX12_mutedOf_43 : decode cX12_mutedOf 43 = .ok (.iload_n 2, 1) := by decide +kernel
theorem dX12_mutedOf_44 : decode cX12_mutedOf 44 = .ok (.ireturn, 1) := by decide +kernel
theorem dX12_often_0 : decode cX12_often 0 = .ok (.aload_n 0, 1) := by decide +kernel
theorem dX12_often_1 : decode cX12_often 1 = .ok (.iconst 0, 1) := by decide +kernel
theorem dX12_often_2 : decode cX12_often 2 = .ok (.putfield 77, 3) := by decide +kernel
theorem dX12_often_5 : decode cX12_often 5 = .ok (.aload_n 0, 1) := by decide +kernel
theorem dX12_often_6 : decode cX12_often 6 = .ok (.iload_n 1, 1) := by decide +kernel
theorem dX12_often_7 : decode cX12_often 7 = .ok (.invokevirtual 265, 3) := by decide +kernel
theorem dX12_often_10 : decode cX12_often 10 = .ok (.ifCond .eq 19, 3) := by decide +kernel
theorem dX12_often_13 : decode cX12_often 13 = .ok (.aload_n 0, 1) := by decide +kernel
theorem dX12_often_14 : decode cX12_often 14 = .ok (.iload_n 2, 1) := by decide +kernel
theorem dX12_often_15 : decode cX12_often 15 = .ok (.invokevirtual 320, 3) := by decide +kernel
theorem dX12_often_18 : decode cX12_often 18 = .ok (.ifCond .eq 11, 3) := by decide +kernel
theorem dX12_often_21 : decode cX12_often 21 = .ok (.aload_n 0, 1) := by decide +kernel
theorem dX12_often_22 : decode cX12_often 22 = .ok (.iload_n 3, 1) := by decide +kernel
theorem dX12_often_23 : decode cX12_often 23 = .ok (.invokevirtual 320, 3) := by decide +kernel
theorem dX12_often_26 : decode cX12_often 26 = .ok (.ifCond .ne 6, 3) := by decide +kernel
theorem dX12_often_29 : decode cX12_often 29 = .ok (.bipush (-2), 2) := by decide +kernel
theorem dX12_often_31 : decode cX12_often 31 = .ok (.ireturn, 1) := by decide +kernel
theorem dX12_often_32 : decode cX12_often 32 = .ok (.aload_n 0, 1) := by decide +kernel
theorem dX12_often_33 : decode cX12_often 33 = .ok (.invokevirtual 326, 3) := by decide +kernel
theorem dX12_often_36 : decode cX12_often 36 = .ok (.aload_n 0, 1) := by decide +kernel
theorem dX12_often_37 : decode cX12_often 37 = .ok (.iload_n 1, 1) := by decide +kernel
theorem dX12_often_38 : decode cX12_often 38 = .ok (.iload_n 2, 1) := by decide +kernel
theorem dX12_often_39 : decode cX12_often 39 = .ok (.iload_n 3, 1) := by decide +kernel
theorem dX12_often_40 : decode cX12_often 40 = .ok (.invokevirtual 332, 3) := by decide +kernel
theorem dX12_often_43 : decode cX12_often 43 = .ok (.ireturn, 1) := by decide +kernel
theorem dX12_oftenOf_0 : decode cX12_oftenOf 0 = .ok (.iconst 0, 1) := by decide +kernel
theorem dX12_oftenOf_1 : decode cX12_oftenOf 1 = .ok (.istore 4, 2) := by decide +kernel
theorem dX12_oftenOf_3 : decode cX12_oftenOf 3 = .ok (.iconst 0, 1) := by decide +kernel
theorem dX12_oftenOf_4 : decode cX12_oftenOf 4 = .ok (.istore 5, 2) := by decide +kernel
theorem dX12_oftenOf_6 : decode cX12_oftenOf 6 = .ok (.iload 5, 2) := by decide +kernel
theorem dX12_oftenOf_8 : decode cX12_oftenOf 8 = .ok (.aload_n 0, 1) := by decide +kernel
theorem dX12_oftenOf_9 : decode cX12_oftenOf 9 = .ok (.getfield 65, 3) := by decide +kernel
theorem dX12_oftenOf_12 : decode cX12_oftenOf 12 = .ok (.iload_n 1, 1) := by decide +kernel
theorem dX12_oftenOf_13 : decode cX12_oftenOf 13 = .ok (.iaload, 1) := by decide +kernel
theorem dX12_oftenOf_14 : decode cX12_oftenOf 14 = .ok (.if_icmp .ge 31, 3) := by decide +kernel
theorem dX12_oftenOf_17 : decode cX12_oftenOf 17 = .ok (.iload 4, 2) := by decide +kernel
theorem dX12_oftenOf_19 : decode cX12_oftenOf 19 = .ok (.aload_n 0, 1) := by decide +kernel
theorem dX12_oftenOf_20 : decode cX12_oftenOf 20 = .ok (.iload_n 1, 1) := by decide +kernel
theorem dX12_oftenOf_21 : decode cX12_oftenOf 21 = .ok (.iload 5, 2) := by decide +kernel
theorem dX12_oftenOf_23 : decode cX12_oftenOf 23 = .ok (.iload_n 2, 1) := by decide +kernel
theorem dX12_oftenOf_24 : decode cX12_oftenOf 24 = .ok (.invokevirtual 289, 3) := by decide +kernel
theorem dX12_oftenOf_27 : decode cX12_oftenOf 27 = .ok (.iload_n 3, 1) := by decide +kernel
theorem dX12_oftenOf_28 : decode cX12_oftenOf 28 = .ok (.if_icmp .ne 7, 3) := by decide +kernel
theorem dX12_oftenOf_31 : decode cX12_oftenOf 31 = .ok (.iconst 1, 1) := by decide +kernel
theorem dX12_oftenOf_32 : decode cX12_oftenOf 32 = .ok (.goto 4, 3) := by decide +kernel
theorem dX12_oftenOf_35 : decode cX12_oftenOf 35 = .ok (.iconst 0, 1) := by decide +kernel
theorem dX12_oftenOf_36 : decode cX12_oftenOf 36 = .ok (.iadd, 1) := by decide +kernel
theorem dX12_oftenOf_37 : decode cX12_oftenOf 37 = .ok (.istore 4, 2) := by decide +kernel
theorem dX12_oftenOf_39 : decode cX12_oftenOf 39 = .ok (.iinc 5 1, 3) := by decide +kernel
theorem dX12_oftenOf_42 : decode cX12_oftenOf 42 = .ok (.goto (-36), 3) := by decide +kernel
theorem dX12_oftenOf_45 : decode cX12_oftenOf 45 = .ok (.iload 4, 2) := by decide +kernel
theorem dX12_oftenOf_47 : decode cX12_oftenOf 47 = .ok (.ireturn, 1) := by decide +kernel
theorem dX12_orderOf_0 : decode cX12_orderOf 0 = .ok (.iconst 1, 1) := by decide +kernel
theorem dX12_orderOf_1 : decode cX12_orderOf 1 = .ok (.istore_n 2, 1) := by decide +kernel
theorem dX12_orderOf_2 : decode cX12_orderOf 2 = .ok (.iconst 0, 1) := by decide +kernel
theorem dX12_orderOf_3 : decode cX12_orderOf 3 = .ok (.istore_n 3, 1) := by decide +kernel
theorem dX12_orderOf_4 : decode cX12_orderOf 4 = .ok (.iload_n 3, 1) := by decide +kernel
theorem dX12_orderOf_5 : decode cX12_orderOf 5 = .ok (.aload_n 0, 1) := by decide +kernel
theorem dX12_orderOf_6 : decode cX12_orderOf 6 = .ok (.invokevirtual 257, 3) := by decide +kernel
theorem dX12_orderOf_9 : decode cX12_orderOf 9 = .ok (.if_icmp .ge 29, 3) := by decide +kernel
theorem dX12_orderOf_12 : decode cX12_orderOf 12 = .ok (.iload_n 2, 1) := by decide +kernel
theorem dX12_orderOf_13 : decode cX12_orderOf 13 = .ok (.iload_n 2, 1) := by decide +kernel
theorem dX12_orderOf_14 : decode cX12_orderOf 14 = .ok (.aload_n 0, 1) := by decide +kernel
theorem dX12_orderOf_15 : decode cX12_orderOf 15 = .ok (.iload_n 1, 1) := by decide +kernel
theorem dX12_orderOf_16 : decode cX12_orderOf 16 = .ok (.iload_n 3, 1) := by decide +kernel
theorem dX12_orderOf_17 : decode cX12_orderOf 17 = .ok (.invokevirtual 279, 3) := by decide +kernel
theorem dX12_orderOf_20 : decode cX12_orderOf 20 = .ok (.invokestatic 276, 3) := by decide +kernel
theorem dX12_orderOf_23 : decode cX12_orderOf 23 = .ok (.idiv, 1) := by decide +kernel
theorem dX12_orderOf_24 : decode cX12_orderOf 24 = .ok (.aload_n 0, 1) := by decide +kernel
theorem dX12_orderOf_25 : decode cX12_orderOf 25 = .ok (.iload_n 1, 1) := by decide +kernel
theorem dX12_orderOf_26 : decode cX12_orderOf 26 = .ok (.iload_n 3, 1) := by decide +kernel
theorem dX12_orderOf_27 : decode cX12_orderOf 27 = .ok (.invokevirtual 279, 3) := by decide +kernel
theorem dX12_orderOf_30 : decode cX12_orderOf 30 = .ok (.imul, 1) := by decide +kernel
theorem dX12_orderOf_31 : decode cX12_orderOf 31 = .ok (.istore_n 2, 1) := by decide +kernel
theorem dX12_orderOf_32 : decode cX12_orderOf 32 = .ok (.iinc 3 1, 3) := by decide +kernel
theorem dX12_orderOf_35 : decode cX12_orderOf 35 = .ok (.goto (-31), 3) := by decide +kernel
theorem dX12_orderOf_38 : decode cX12_orderOf 38 = .ok (.iload_n 2, 1) := by decide +kernel
theorem dX12_orderOf_39 : decode cX12_orderOf 39 = .ok (.ireturn, 1) := by decide +kernel
theorem dX12_round_0 : decode cX12_round 0 = .ok (.aload_n 0, 1) := by decide +kernel
theorem dX12_round_1 : decode cX12_round 1 = .ok (.iconst 0, 1) := by decide +kernel
theorem dX12_round_2 : decode cX12_round 2 = .ok (.putfield 77, 3) := by decide +kernel
theorem dX12_round_5 : decode cX12_round 5 = .ok (.aload_n 0, 1) := by decide +kernel
theorem dX12_round_6 : decode cX12_round 6 = .ok (.iload_n 1, 1) := by decide +kernel
theorem dX12_round_7 : decode cX12_round 7 = .ok (.invokevirtual 265, 3) := by decide +kernel
theorem dX12_round_10 : decode cX12_round 10 = .ok (.ifCond .ne 6, 3) := by decide +kernel
theorem dX12_round_13 : decode cX12_round 13 = .ok (.bipush (-2), 2) := by decide +kernel
theorem dX12_round_15 : decode cX12_round 15 = .ok (.ireturn, 1) := by decide +kernel
theorem dX12_round_16 : decode cX12_round 16 = .ok (.aload_n 0, 1) := by decide +kernel
theorem dX12_round_17 : decode cX12_round 17 = .ok (.invokevirtual 326, 3) := by decide +kernel
theorem dX12_round_20 : decode cX12_round 20 = .ok (.aload_n 0, 1) := by decide +kernel
theorem dX12_round_21 : decode cX12_round 21 = .ok (.getfield 65, 3) := by decide +kernel
theorem dX12_round_24 : decode cX12_round 24 = .ok (.iload_n 1, 1) := by decide +kernel
theorem dX12_round_25 : decode cX12_round 25 = .ok (.iaload, 1) := by decide +kernel
theorem dX12_round_26 : decode cX12_round 26 = .ok (.ireturn, 1) := by decide +kernel
theorem dX12_says_0 : decode cX12_says 0 = .ok (.aload_n 0, 1) := by decide +kernel
theorem dX12_says_1 : decode cX12_says 1 = .ok (.iconst 0, 1) := by decide +kernel
theorem dX12_says_2 : decode cX12_says 2 = .ok (.putfield 77, 3) := by decide +kernel
theorem dX12_says_5 : decode cX12_says 5 = .ok (.aload_n 0, 1) := by decide +kernel
theorem dX12_says_6 : decode cX12_says 6 = .ok (.iload_n 1, 1) := by decide +kernel
theorem dX12_says_7 : decode cX12_says 7 = .ok (.iload_n 2, 1) := by decide +kernel
theorem dX12_says_8 : decode cX12_says 8 = .ok (.invokevirtual 323, 3) := by decide +kernel
theorem dX12_says_11 : decode cX12_says 11 = .ok (.ifCond .eq 11, 3) := by decide +kernel
theorem dX12_says_14 : decode cX12_says 14 = .ok (.aload_n 0, 1) := by decide +kernel
theorem dX12_says_15 : decode cX12_says 15 = .ok (.iload_n 3, 1) := by decide +kernel
theorem dX12_says_16 : decode cX12_says 16 = .ok (.invokevirtual 320, 3) := by decide +kernel
theorem dX12_says_19 : decode cX12_says 19 = .ok (.ifCond .ne 6, 3) := by decide +kernel
theorem dX12_says_22 : decode cX12_says 22 = .ok (.bipush (-2), 2) := by decide +kernel
theorem dX12_says_24 : decode cX12_says 24 = .ok (.ireturn, 1) := by decide +kernel
theorem dX12_says_25 : decode cX12_says 25 = .ok (.aload_n 0, 1) := by decide +kernel
theorem dX12_says_26 : decode cX12_says 26 = .ok (.invokevirtual 326, 3) := by decide +kernel
theorem dX12_says_29 : decode cX12_says 29 = .ok (.aload_n 0, 1) := by decide +kernel
theorem dX12_says_30 : decode cX12_says 30 = .ok (.iload_n 1, 1) := by decide +kernel
theorem dX12_says_31 : decode cX12_says 31 = .ok (.iload_n 2, 1) := by decide +kernel
theorem dX12_says_32 : decode cX12_says 32 = .ok (.iload_n 3, 1) := by decide +kernel
theorem dX12_says_33 : decode cX12_says 33 = .ok (.invokevirtual 329, 3) := by decide +kernel
theorem dX12_says_36 : decode cX12_says 36 = .ok (.ireturn, 1) := by decide +kernel
theorem dX12_says0_0 : decode cX12_says0 0 = .ok (.iconst 0, 1) := by decide +kernel
theorem dX12_says0_1 : decode cX12_says0 1 = .ok (.istore 4, 2) := by decide +kernel
theorem dX12_says0_3 : decode cX12_says0 3 = .ok (.iload 4, 2) := by decide +kernel
theorem dX12_says0_5 : decode cX12_says0 5 = .ok (.aload_n 0, 1) := by decide +kernel
theorem dX12_says0_6 : decode cX12_says0 6 = .ok (.invokevirtual 257, 3) := by decide +kernel
theorem dX12_says0_9 : decode cX12_says0 9 = .ok (.if_icmp .ge 24, 3) := by decide +kernel
theorem dX12_says0_12 : decode cX12_says0 12 = .ok (.aload_n 0, 1) := by decide +kernel
theorem dX12_says0_13 : decode cX12_says0 13 = .ok (.iload_n 1, 1) := by decide +kernel
theorem dX12_says0_14 : decode cX12_says0 14 = .ok (.iload_n 2, 1) := by decide +kernel
theorem dX12_says0_15 : decode cX12_says0 15 = .ok (.iload 4, 2) := by decide +kernel
theorem dX12_says0_17 : decode cX12_says0 17 = .ok (.invokevirtual 289, 3) := by decide +kernel
theorem dX12_says0_20 : decode cX12_says0 20 = .ok (.iload_n 3, 1) := by decide +kernel
theorem dX12_says0_21 : decode cX12_says0 21 = .ok (.if_icmp .ne 6, 3) := by decide +kernel
theorem dX12_says0_24 : decode cX12_says0 24 = .ok (.iload 4, 2) := by decide +kernel
theorem dX12_says0_26 : decode cX12_says0 26 = .ok (.ireturn, 1) := by decide +kernel
theorem dX12_says0_27 : decode cX12_says0 27 = .ok (.iinc 4 1, 3) := by decide +kernel
theorem dX12_says0_30 : decode cX12_says0 30 = .ok (.goto (-27), 3) := by decide +kernel
theorem dX12_says0_33 : decode cX12_says0 33 = .ok (.iconst (-1), 1) := by decide +kernel
theorem dX12_says0_34 : decode cX12_says0 34 = .ok (.ireturn, 1) := by decide +kernel
theorem dX12_when_0 : decode cX12_when 0 = .ok (.aload_n 0, 1) := by decide +kernel
theorem dX12_when_1 : decode cX12_when 1 = .ok (.iconst 0, 1) := by decide +kernel
theorem dX12_when_2 : decode cX12_when 2 = .ok (.putfield 77, 3) := by decide +kernel
theorem dX12_when_5 : decode cX12_when 5 = .ok (.aload_n 0, 1) := by decide +kernel
theorem dX12_when_6 : decode cX12_when 6 = .ok (.iload_n 1, 1) := by decide +kernel
theorem dX12_when_7 : decode cX12_when 7 = .ok (.iload 4, 2) := by decide +kernel
theorem dX12_when_9 : decode cX12_when 9 = .ok (.invokevirtual 323, 3) := by decide +kernel
theorem dX12_when_12 : decode cX12_when 12 = .ok (.ifCond .eq 19, 3) := by decide +kernel
theorem dX12_when_15 : decode cX12_when 15 = .ok (.aload_n 0, 1) := by decide +kernel
theorem dX12_when_16 : decode cX12_when 16 = .ok (.iload_n 2, 1) := by decide +kernel
theorem dX12_when_17 : decode cX12_when 17 = .ok (.invokevirtual 320, 3) := by decide +kernel
theorem dX12_when_20 : decode cX12_when 20 = .ok (.ifCond .eq 11, 3) := by decide +kernel
theorem dX12_when_23 : decode cX12_when 23 = .ok (.aload_n 0, 1) := by decide +kernel
theorem dX12_when_24 : decode cX12_when 24 = .ok (.iload_n 3, 1) := by decide +kernel
theorem dX12_when_25 : decode cX12_when 25 = .ok (.invokevirtual 320, 3) := by decide +kernel
theorem dX12_when_28 : decode cX12_when 28 = .ok (.ifCond .ne 6, 3) := by decide +kernel
theorem dX12_when_31 : decode cX12_when 31 = .ok (.bipush (-2), 2) := by decide +kernel
theorem dX12_when_33 : decode cX12_when 33 = .ok (.ireturn, 1) := by decide +kernel
theorem dX12_when_34 : decode cX12_when 34 = .ok (.aload_n 0, 1) := by decide +kernel
theorem dX12_when_35 : decode cX12_when 35 = .ok (.invokevirtual 326, 3) := by decide +kernel
theorem dX12_when_38 : decode cX12_when 38 = .ok (.iconst 0, 1) := by decide +kernel
theorem dX12_when_39 : decode cX12_when 39 = .ok (.istore 5, 2) := by decide +kernel
theorem dX12_when_41 : decode cX12_when 41 = .ok (.iload 5, 2) := by decide +kernel
theorem dX12_when_43 : decode cX12_when 43 = .ok (.aload_n 0, 1) := by decide +kernel
theorem dX12_when_44 : decode cX12_when 44 = .ok (.getfield 62, 3) := by decide +kernel
theorem dX12_when_47 : decode cX12_when 47 = .ok (.iload_n 1, 1) := by decide +kernel
theorem dX12_when_48 : decode cX12_when 48 = .ok (.iaload, 1) := by decide +kernel
theorem dX12_when_49 : decode cX12_when 49 = .ok (.if_icmp .ge 30, 3) := by decide +kernel
theorem dX12_when_52 : decode cX12_when 52 = .ok (.aload_n 0, 1) := by decide +kernel
theorem dX12_when_53 : decode cX12_when 53 = .ok (.iload_n 1, 1) := by decide +kernel
theorem dX12_when_54 : decode cX12_when 54 = .ok (.iload 4, 2) := by decide +kernel
theorem dX12_when_56 : decode cX12_when 56 = .ok (.iload 5, 2) := by decide +kernel
theorem dX12_when_58 : decode cX12_when 58 = .ok (.iadd, 1) := by decide +kernel
theorem dX12_when_59 : decode cX12_when 59 = .ok (.iload_n 2, 1) := by decide +kernel
theorem dX12_when_60 : decode cX12_when 60 = .ok (.invokevirtual 289, 3) := by decide +kernel
theorem dX12_when_63 : decode cX12_when 63 = .ok (.iload_n 3, 1) := by decide +kernel
theorem dX12_when_64 : decode cX12_when 64 = .ok (.if_icmp .ne 9, 3) := by decide +kernel
theorem dX12_when_67 : decode cX12_when 67 = .ok (.iload 4, 2) := by decide +kernel
theorem dX12_when_69 : decode cX12_when 69 = .ok (.iload 5, 2) := by decide +kernel
theorem dX12_when_71 : decode cX12_when 71 = .ok (.iadd, 1) := by decide +kernel
theorem dX12_when_72 : decode cX12_when 72 = .ok (.ireturn, 1) := by decide +kernel
theorem dX12_when_73 : decode cX12_when 73 = .ok (.iinc 5 1, 3) := by decide +kernel
theorem dX12_when_76 : decode cX12_when 76 = .ok (.goto (-35), 3) := by decide +kernel
theorem dX12_when_79 : decode cX12_when 79 = .ok (.iconst (-1), 1) := by decide +kernel
theorem dX12_when_80 : decode cX12_when 80 = .ok (.ireturn, 1) := by decide +kernel
theorem dX12_words_16 : decode cX12_words 16 = .ok (.iconst 0, 1) := by decide +kernel
theorem mm_k2400 : mm_rg 2400 2400 2400 := ⟨by decide, by decide⟩
theorem hd_X12_cycleOf : yX12_cycleOf.cls = RX12 ∧ yX12_cycleOf.cls ≠ "java/lang/invoke/MethodHandle" ∧ yX12_cycleOf.cls ≠ "java/lang/invoke/VarHandle" ∧ (parseMethodDescriptor yX12_cycleOf.desc).map (fun d => d.parameters.length) = some 2 := by decide +kernel
theorem hd_X12_isRound : yX12_isRound.cls = RX12 ∧ yX12_isRound.cls ≠ "java/lang/invoke/MethodHandle" ∧ yX12_isRound.cls ≠ "java/lang/invoke/VarHandle" ∧ (parseMethodDescriptor yX12_isRound.desc).map (fun d => d.parameters.length) = some 2 := by decide +kernel
theorem hd_X12_isThen : yX12_isThen.cls = RX12 ∧ yX12_isThen.cls ≠ "java/lang/invoke/MethodHandle" ∧ yX12_isThen.cls ≠ "java/lang/invoke/VarHandle" ∧ (parseMethodDescriptor yX12_isThen.desc).map (fun d => d.parameters.length) = some 2 := by decide +kernel
theorem hd_X12_lays : yX12_lays.cls = RX12 ∧ yX12_lays.cls ≠ "java/lang/invoke/MethodHandle" ∧ yX12_lays.cls ≠ "java/lang/invoke/VarHandle" ∧ (parseMethodDescriptor yX12_lays.desc).map (fun d => d.parameters.length) = some 0 := by decide +kernel
theorem hd_X12_laysLand : yX12_laysLand.cls = RX12 ∧ yX12_laysLand.cls ≠ "java/lang/invoke/MethodHandle" ∧ yX12_laysLand.cls ≠ "java/lang/invoke/VarHandle" ∧ (parseMethodDescriptor yX12_laysLand.desc).map (fun d => d.parameters.length) = some 1 := by decide +kernel
theorem hd_X12_means0 : yX12_means0.cls = RX12 ∧ yX12_means0.cls ≠ "java/lang/invoke/MethodHandle" ∧ yX12_means0.cls ≠ "java/lang/invoke/VarHandle" ∧ (parseMethodDescriptor yX12_means0.desc).map (fun d => d.parameters.length) = some 3 := by decide +kernel
theorem hd_X12_mutedOf : yX12_mutedOf.cls = RX12 ∧ yX12_mutedOf.cls ≠ "java/lang/invoke/MethodHandle" ∧ yX12_mutedOf.cls ≠ "java/lang/invoke/VarHandle" ∧ (parseMethodDescriptor yX12_mutedOf.desc).map (fun d => d.parameters.length) = some 1 := by decide +kernel
theorem hd_X12_oftenOf : yX12_oftenOf.cls = RX12 ∧ yX12_oftenOf.cls ≠ "java/lang/invoke/MethodHandle" ∧ yX12_oftenOf.cls ≠ "java/lang/invoke/VarHandle" ∧ (parseMethodDescriptor yX12_oftenOf.desc).map (fun d => d.parameters.length) = some 3 := by decide +kernel
theorem hd_X12_orderOf : yX12_orderOf.cls = RX12 ∧ yX12_orderOf.cls ≠ "java/lang/invoke/MethodHandle" ∧ yX12_orderOf.cls ≠ "java/lang/invoke/VarHandle" ∧ (parseMethodDescriptor yX12_orderOf.desc).map (fun d => d.parameters.length) = some 1 := by decide +kernel
theorem hd_X12_says0 : yX12_says0.cls = RX12 ∧ yX12_says0.cls ≠ "java/lang/invoke/MethodHandle" ∧ yX12_says0.cls ≠ "java/lang/invoke/VarHandle" ∧ (parseMethodDescriptor yX12_says0.desc).map (fun d => d.parameters.length) = some 3 := by decide +kernel
set_option maxHeartbeats 4000000 in
set_option maxRecDepth 100000 in
theorem M109_X12_common (l : Launch) (G : va_G) (cy : Nat → ClassId) (sz : Nat) (i_0 : Int32) (i_1 : Int32) (h0 : mm_rg i_0 1 3) (h1 : mm_rg i_1 0 2)  : mm_CI l yX12_common (mm_ws yX12_common cX12_common 2 (some .int)) ({ frames := 2, cells := 0, slots := 0, locals := 42 } : Room) G cy sz [] [.int i_0, .int i_1] (fun u : Unit => []) (fun (r : Int32) (u : Unit) => mm_rg r 1 3 ∧ mm_gcd i_0 i_1 r) 0 0 := by
  refine mm_begin (lv := [(0, .int i_0), (1, .int i_1)]) (by decide) (Nat.le_of_ble_eq_true rfl) rfl ?_
  intro p e s m below meth c A ls R args Q H locs hRe hQ hAe hx hb hr hlocks hml hown hnm hts hsz hA hS hP hK hD hZ hl
  have hRf : R.frames = 2 := by rw [hRe]
  have hRl : R.locals = 42 := by rw [hRe]
  have hRc : R.cells = 0 := by rw [hRe]
  have hRs : R.slots = 0 := by rw [hRe]
  refine lv_iload_n hx hb dX12_common_0 rfl (lv_at hl 1 rfl) ?_
  refine lv_if_ne (tgt := 8) hx hb dX12_common_1 (by decide) (fun c1 => ?_) (fun c1 => ?_)
  · have q2 := mm_neL (lo := 1) (mm_ne c1) h1 mm_k0 (by decide) (by decide)
    refine lv_iload_n hx hb dX12_common_8 rfl (lv_at hl 1 rfl) ?_
    refine lv_iload_n hx hb dX12_common_9 rfl (lv_at hl 0 rfl) ?_
    refine lv_iload_n hx hb dX12_common_10 rfl (lv_at hl 1 rfl) ?_
    refine lv_irem hx hb dX12_common_11 (mm_nz q2 (by decide)) ?_
    refine lv_topi (fun v3 ev3 => ?_)
    have rv3 : mm_rg v3 0 1 := mm_rem ev3 h0 q2 (by decide) (by decide)
    refine mm_finir (va_runS (As := [.int i_1, .int v3]) (rest := []) ⟨hx, hb, hml, hown, hts⟩ (M108_X12_common l G cy H.size i_1 v3 q2 rv3) (va_cwS 2 hts (mm_gS mm_w706 mm_w707 mm_w5 mm_w708) rfl rfl rfl hs_X12_common ⟨by rw [hRf]; exact Nat.le_of_ble_eq_true rfl, by rw [hRl]; exact Nat.le_of_ble_eq_true rfl⟩) (mm_preS hK hZ hS hA hP hD [] rfl rfl) rfl rfl hl.1 rfl (lv_room (Nat.le_of_ble_eq_true rfl)) dX12_common_12 ⟨by rw [hRc]; exact Nat.le_of_ble_eq_true rfl, by rw [hRs]; exact Nat.le_of_ble_eq_true rfl⟩) hP hD hS hA [] rfl (fun _ => rfl) ?_
    clear hP hD hS
    clear H locs
    intro v4 _u H locs hw hP hD hS
    obtain ⟨w5, w6⟩ := hw
    have w7 : mm_gcd i_0 i_1 v4 := (mm_gcd_s w6 ev3 h0 q2 (by decide))
    subst hAe
    rw [hQ]
    exact W.iret (v := v4) hx hb hr (fun t ht hW => ⟨⟨v4, (), rfl, ⟨(mm_wk w5 (by decide)), w7⟩, by rw [ht]; exact hP, hK.warm hW, hD⟩, hS.F ht⟩) hS.2.2 dX12_common_15
  · have q8 := mm_eqI (lo := 0) (hi := 0) c1 h1 mm_k0 (by decide)
    refine lv_iload_n hx hb dX12_common_4 rfl (lv_at hl 0 rfl) ?_
    refine lv_goto (tgt := 15) hx hb dX12_common_5 (by decide) ?_
    have w9 : mm_gcd i_0 i_1 i_0 := (mm_gcd_0 h0 q8 (by decide))
    subst hAe
    rw [hQ]
    exact W.iret (v := i_0) hx hb hr (fun t ht hW => ⟨⟨i_0, (), rfl, ⟨h0, w9⟩, by rw [ht]; exact hP, hK.warm hW, hD⟩, hS.F ht⟩) hS.2.2 dX12_common_15

set_option maxHeartbeats 4000000 in
set_option maxRecDepth 100000 in
theorem M110_X12_common (l : Launch) (G : va_G) (cy : Nat → ClassId) (sz : Nat) (i_0 : Int32) (i_1 : Int32) (h0 : mm_rg i_0 1 4) (h1 : mm_rg i_1 0 3)  : mm_CI l yX12_common (mm_ws yX12_common cX12_common 2 (some .int)) ({ frames := 3, cells := 0, slots := 0, locals := 63 } : Room) G cy sz [] [.int i_0, .int i_1] (fun u : Unit => []) (fun (r : Int32) (u : Unit) => mm_rg r 1 4 ∧ mm_gcd i_0 i_1 r) 0 0 := by
  refine mm_begin (lv := [(0, .int i_0), (1, .int i_1)]) (by decide) (Nat.le_of_ble_eq_true rfl) rfl ?_
  intro p e s m below meth c A ls R args Q H locs hRe hQ hAe hx hb hr hlocks hml hown hnm hts hsz hA hS hP hK hD hZ hl
  have hRf : R.frames = 3 := by rw [hRe]
  have hRl : R.locals = 63 := by rw [hRe]
  have hRc : R.cells = 0 := by rw [hRe]
  have hRs : R.slots = 0 := by rw [hRe]
  refine lv_iload_n hx hb dX12_common_0 rfl (lv_at hl 1 rfl) ?_
  refine lv_if_ne (tgt := 8) hx hb dX12_common_1 (by decide) (fun c1 => ?_) (fun c1 => ?_)
  · have q2 := mm_neL (lo := 1) (mm_ne c1) h1 mm_k0 (by decide) (by decide)
    refine lv_iload_n hx hb dX12_common_8 rfl (lv_at hl 1 rfl) ?_
    refine lv_iload_n hx hb dX12_common_9 rfl (lv_at hl 0 rfl) ?_
    refine lv_iload_n hx hb dX12_common_10 rfl (lv_at hl 1 rfl) ?_
    refine lv_irem hx hb dX12_common_11 (mm_nz q2 (by decide)) ?_
    refine lv_topi (fun v3 ev3 => ?_)
    have rv3 : mm_rg v3 0 2 := mm_rem ev3 h0 q2 (by decide) (by decide)
    refine mm_finir (va_runS (As := [.int i_1, .int v3]) (rest := []) ⟨hx, hb, hml, hown, hts⟩ (M109_X12_common l G cy H.size i_1 v3 q2 rv3) (va_cwS 2 hts (mm_gS mm_w706 mm_w707 mm_w5 mm_w708) rfl rfl rfl hs_X12_common ⟨by rw [hRf]; exact Nat.le_of_ble_eq_true rfl, by rw [hRl]; exact Nat.le_of_ble_eq_true rfl⟩) (mm_preS hK hZ hS hA hP hD [] rfl rfl) rfl rfl hl.1 rfl (lv_room (Nat.le_of_ble_eq_true rfl)) dX12_common_12 ⟨by rw [hRc]; exact Nat.le_of_ble_eq_true rfl, by rw [hRs]; exact Nat.le_of_ble_eq_true rfl⟩) hP hD hS hA [] rfl (fun _ => rfl) ?_
    clear hP hD hS
    clear H locs
    intro v4 _u H locs hw hP hD hS
    obtain ⟨w5, w6⟩ := hw
    have w7 : mm_gcd i_0 i_1 v4 := (mm_gcd_s w6 ev3 h0 q2 (by decide))
    subst hAe
    rw [hQ]
    exact W.iret (v := v4) hx hb hr (fun t ht hW => ⟨⟨v4, (), rfl, ⟨(mm_wk w5 (by decide)), w7⟩, by rw [ht]; exact hP, hK.warm hW, hD⟩, hS.F ht⟩) hS.2.2 dX12_common_15
  · have q8 := mm_eqI (lo := 0) (hi := 0) c1 h1 mm_k0 (by decide)
    refine lv_iload_n hx hb dX12_common_4 rfl (lv_at hl 0 rfl) ?_
    refine lv_goto (tgt := 15) hx hb dX12_common_5 (by decide) ?_
    have w9 : mm_gcd i_0 i_1 i_0 := (mm_gcd_0 h0 q8 (by decide))
    subst hAe
    rw [hQ]
    exact W.iret (v := i_0) hx hb hr (fun t ht hW => ⟨⟨i_0, (), rfl, ⟨h0, w9⟩, by rw [ht]; exact hP, hK.warm hW, hD⟩, hS.F ht⟩) hS.2.2 dX12_common_15

set_option maxHeartbeats 4000000 in
set_option maxRecDepth 100000 in
theorem M111_X12_common (l : Launch) (G : va_G) (cy : Nat → ClassId) (sz : Nat) (i_0 : Int32) (i_1 : Int32) (h0 : mm_rg i_0 1 5) (h1 : mm_rg i_1 0 4)  : mm_CI l yX12_common (mm_ws yX12_common cX12_common 2 (some .int)) ({ frames := 4, cells := 0, slots := 0, locals := 84 } : Room) G cy sz [] [.int i_0, .int i_1] (fun u : Unit => []) (fun (r : Int32) (u : Unit) => mm_rg r 1 5 ∧ mm_gcd i_0 i_1 r) 0 0 := by
  refine mm_begin (lv := [(0, .int i_0), (1, .int i_1)]) (by decide) (Nat.le_of_ble_eq_true rfl) rfl ?_
  intro p e s m below meth c A ls R args Q H locs hRe hQ hAe hx hb hr hlocks hml hown hnm hts hsz hA hS hP hK hD hZ hl
  have hRf : R.frames = 4 := by rw [hRe]
  have hRl : R.locals = 84 := by rw [hRe]
  have hRc : R.cells = 0 := by rw [hRe]
  have hRs : R.slots = 0 := by rw [hRe]
  refine lv_iload_n hx hb dX12_common_0 rfl (lv_at hl 1 rfl) ?_
  refine lv_if_ne (tgt := 8) hx hb dX12_common_1 (by decide) (fun c1 => ?_) (fun c1 => ?_)
  · have q2 := mm_neL (lo := 1) (mm_ne c1) h1 mm_k0 (by decide) (by decide)
    refine lv_iload_n hx hb dX12_common_8 rfl (lv_at hl 1 rfl) ?_
    refine lv_iload_n hx hb dX12_common_9 rfl (lv_at hl 0 rfl) ?_
    refine lv_iload_n hx hb dX12_common_10 rfl (lv_at hl 1 rfl) ?_
    refine lv_irem hx hb dX12_common_11 (mm_nz q2 (by decide)) ?_
    refine lv_topi (fun v3 ev3 => ?_)
    have rv3 : mm_rg v3 0 3 := mm_rem ev3 h0 q2 (by decide) (by decide)
    refine mm_finir (va_runS (As := [.int i_1, .int v3]) (rest := []) ⟨hx, hb, hml, hown, hts⟩ (M110_X12_common l G cy H.size i_1 v3 q2 rv3) (va_cwS 2 hts (mm_gS mm_w706 mm_w707 mm_w5 mm_w708) rfl rfl rfl hs_X12_common ⟨by rw [hRf]; exact Nat.le_of_ble_eq_true rfl, by rw [hRl]; exact Nat.le_of_ble_eq_true rfl⟩) (mm_preS hK hZ hS hA hP hD [] rfl rfl) rfl rfl hl.1 rfl (lv_room (Nat.le_of_ble_eq_true rfl)) dX12_common_12 ⟨by rw [hRc]; exact Nat.le_of_ble_eq_true rfl, by rw [hRs]; exact Nat.le_of_ble_eq_true rfl⟩) hP hD hS hA [] rfl (fun _ => rfl) ?_
    clear hP hD hS
    clear H locs
    intro v4 _u H locs hw hP hD hS
    obtain ⟨w5, w6⟩ := hw
    have w7 : mm_gcd i_0 i_1 v4 := (mm_gcd_s w6 ev3 h0 q2 (by decide))
    subst hAe
    rw [hQ]
    exact W.iret (v := v4) hx hb hr (fun t ht hW => ⟨⟨v4, (), rfl, ⟨(mm_wk w5 (by decide)), w7⟩, by rw [ht]; exact hP, hK.warm hW, hD⟩, hS.F ht⟩) hS.2.2 dX12_common_15
  · have q8 := mm_eqI (lo := 0) (hi := 0) c1 h1 mm_k0 (by decide)
    refine lv_iload_n hx hb dX12_common_4 rfl (lv_at hl 0 rfl) ?_
    refine lv_goto (tgt := 15) hx hb dX12_common_5 (by decide) ?_
    have w9 : mm_gcd i_0 i_1 i_0 := (mm_gcd_0 h0 q8 (by decide))
    subst hAe
    rw [hQ]
    exact W.iret (v := i_0) hx hb hr (fun t ht hW => ⟨⟨i_0, (), rfl, ⟨h0, w9⟩, by rw [ht]; exact hP, hK.warm hW, hD⟩, hS.F ht⟩) hS.2.2 dX12_common_15

set_option maxHeartbeats 4000000 in
set_option maxRecDepth 100000 in
theorem M112_X12_common (l : Launch) (G : va_G) (cy : Nat → ClassId) (sz : Nat) (i_0 : Int32) (i_1 : Int32) (h0 : mm_rg i_0 1 6) (h1 : mm_rg i_1 0 5)  : mm_CI l yX12_common (mm_ws yX12_common cX12_common 2 (some .int)) ({ frames := 5, cells := 0, slots := 0, locals := 105 } : Room) G cy sz [] [.int i_0, .int i_1] (fun u : Unit => []) (fun (r : Int32) (u : Unit) => mm_rg r 1 6 ∧ mm_gcd i_0 i_1 r) 0 0 := by
  refine mm_begin (lv := [(0, .int i_0), (1, .int i_1)]) (by decide) (Nat.le_of_ble_eq_true rfl) rfl ?_
  intro p e s m below meth c A ls R args Q H locs hRe hQ hAe hx hb hr hlocks hml hown hnm hts hsz hA hS hP hK hD hZ hl
  have hRf : R.frames = 5 := by rw [hRe]
  have hRl : R.locals = 105 := by rw [hRe]
  have hRc : R.cells = 0 := by rw [hRe]
  have hRs : R.slots = 0 := by rw [hRe]
  refine lv_iload_n hx hb dX12_common_0 rfl (lv_at hl 1 rfl) ?_
  refine lv_if_ne (tgt := 8) hx hb dX12_common_1 (by decide) (fun c1 => ?_) (fun c1 => ?_)
  · have q2 := mm_neL (lo := 1) (mm_ne c1) h1 mm_k0 (by decide) (by decide)
    refine lv_iload_n hx hb dX12_common_8 rfl (lv_at hl 1 rfl) ?_
    refine lv_iload_n hx hb dX12_common_9 rfl (lv_at hl 0 rfl) ?_
    refine lv_iload_n hx hb dX12_common_10 rfl (lv_at hl 1 rfl) ?_
    refine lv_irem hx hb dX12_common_11 (mm_nz q2 (by decide)) ?_
    refine lv_topi (fun v3 ev3 => ?_)
    have rv3 : mm_rg v3 0 4 := mm_rem ev3 h0 q2 (by decide) (by decide)
    refine mm_finir (va_runS (As := [.int i_1, .int v3]) (rest := []) ⟨hx, hb, hml, hown, hts⟩ (M111_X12_common l G cy H.size i_1 v3 q2 rv3) (va_cwS 2 hts (mm_gS mm_w706 mm_w707 mm_w5 mm_w708) rfl rfl rfl hs_X12_common ⟨by rw [hRf]; exact Nat.le_of_ble_eq_true rfl, by rw [hRl]; exact Nat.le_of_ble_eq_true rfl⟩) (mm_preS hK hZ hS hA hP hD [] rfl rfl) rfl rfl hl.1 rfl (lv_room (Nat.le_of_ble_eq_true rfl)) dX12_common_12 ⟨by rw [hRc]; exact Nat.le_of_ble_eq_true rfl, by rw [hRs]; exact Nat.le_of_ble_eq_true rfl⟩) hP hD hS hA [] rfl (fun _ => rfl) ?_
    clear hP hD hS
    clear H locs
    intro v4 _u H locs hw hP hD hS
    obtain ⟨w5, w6⟩ := hw
    have w7 : mm_gcd i_0 i_1 v4 := (mm_gcd_s w6 ev3 h0 q2 (by decide))
    subst hAe
    rw [hQ]
    exact W.iret (v := v4) hx hb hr (fun t ht hW => ⟨⟨v4, (), rfl, ⟨(mm_wk w5 (by decide)), w7⟩, by rw [ht]; exact hP, hK.warm hW, hD⟩, hS.F ht⟩) hS.2.2 dX12_common_15
  · have q8 := mm_eqI (lo := 0) (hi := 0) c1 h1 mm_k0 (by decide)
    refine lv_iload_n hx hb dX12_common_4 rfl (lv_at hl 0 rfl) ?_
    refine lv_goto (tgt := 15) hx hb dX12_common_5 (by decide) ?_
    have w9 : mm_gcd i_0 i_1 i_0 := (mm_gcd_0 h0 q8 (by decide))
    subst hAe
    rw [hQ]
    exact W.iret (v := i_0) hx hb hr (fun t ht hW => ⟨⟨i_0, (), rfl, ⟨h0, w9⟩, by rw [ht]; exact hP, hK.warm hW, hD⟩, hS.F ht⟩) hS.2.2 dX12_common_15

set_option maxHeartbeats 4000000 in
set_option maxRecDepth 100000 in
theorem M113_X12_common (l : Launch) (G : va_G) (cy : Nat → ClassId) (sz : Nat) (i_0 : Int32) (i_1 : Int32) (h0 : mm_rg i_0 1 7) (h1 : mm_rg i_1 0 6)  : mm_CI l yX12_common (mm_ws yX12_common cX12_common 2 (some .int)) ({ frames := 6, cells := 0, slots := 0, locals := 126 } : Room) G cy sz [] [.int i_0, .int i_1] (fun u : Unit => []) (fun (r : Int32) (u : Unit) => mm_rg r 1 7 ∧ mm_gcd i_0 i_1 r) 0 0 := by
  refine mm_begin (lv := [(0, .int i_0), (1, .int i_1)]) (by decide) (Nat.le_of_ble_eq_true rfl) rfl ?_
  intro p e s m below meth c A ls R args Q H locs hRe hQ hAe hx hb hr hlocks hml hown hnm hts hsz hA hS hP hK hD hZ hl
  have hRf : R.frames = 6 := by rw [hRe]
  have hRl : R.locals = 126 := by rw [hRe]
  have hRc : R.cells = 0 := by rw [hRe]
  have hRs : R.slots = 0 := by rw [hRe]
  refine lv_iload_n hx hb dX12_common_0 rfl (lv_at hl 1 rfl) ?_
  refine lv_if_ne (tgt := 8) hx hb dX12_common_1 (by decide) (fun c1 => ?_) (fun c1 => ?_)
  · have q2 := mm_neL (lo := 1) (mm_ne c1) h1 mm_k0 (by decide) (by decide)
    refine lv_iload_n hx hb dX12_common_8 rfl (lv_at hl 1 rfl) ?_
    refine lv_iload_n hx hb dX12_common_9 rfl (lv_at hl 0 rfl) ?_
    refine lv_iload_n hx hb dX12_common_10 rfl (lv_at hl 1 rfl) ?_
    refine lv_irem hx hb dX12_common_11 (mm_nz q2 (by decide)) ?_
    refine lv_topi (fun v3 ev3 => ?_)
    have rv3 : mm_rg v3 0 5 := mm_rem ev3 h0 q2 (by decide) (by decide)
    refine mm_finir (va_runS (As := [.int i_1, .int v3]) (rest := []) ⟨hx, hb, hml, hown, hts⟩ (M112_X12_common l G cy H.size i_1 v3 q2 rv3) (va_cwS 2 hts (mm_gS mm_w706 mm_w707 mm_w5 mm_w708) rfl rfl rfl hs_X12_common ⟨by rw [hRf]; exact Nat.le_of_ble_eq_true rfl, by rw [hRl]; exact Nat.le_of_ble_eq_true rfl⟩) (mm_preS hK hZ hS hA hP hD [] rfl rfl) rfl rfl hl.1 rfl (lv_room (Nat.le_of_ble_eq_true rfl)) dX12_common_12 ⟨by rw [hRc]; exact Nat.le_of_ble_eq_true rfl, by rw [hRs]; exact Nat.le_of_ble_eq_true rfl⟩) hP hD hS hA [] rfl (fun _ => rfl) ?_
    clear hP hD hS
    clear H locs
    intro v4 _u H locs hw hP hD hS
    obtain ⟨w5, w6⟩ := hw
    have w7 : mm_gcd i_0 i_1 v4 := (mm_gcd_s w6 ev3 h0 q2 (by decide))
    subst hAe
    rw [hQ]
    exact W.iret (v := v4) hx hb hr (fun t ht hW => ⟨⟨v4, (), rfl, ⟨(mm_wk w5 (by decide)), w7⟩, by rw [ht]; exact hP, hK.warm hW, hD⟩, hS.F ht⟩) hS.2.2 dX12_common_15
  · have q8 := mm_eqI (lo := 0) (hi := 0) c1 h1 mm_k0 (by decide)
    refine lv_iload_n hx hb dX12_common_4 rfl (lv_at hl 0 rfl) ?_
    refine lv_goto (tgt := 15) hx hb dX12_common_5 (by decide) ?_
    have w9 : mm_gcd i_0 i_1 i_0 := (mm_gcd_0 h0 q8 (by decide))
    subst hAe
    rw [hQ]
    exact W.iret (v := i_0) hx hb hr (fun t ht hW => ⟨⟨i_0, (), rfl, ⟨h0, w9⟩, by rw [ht]; exact hP, hK.warm hW, hD⟩, hS.F ht⟩) hS.2.2 dX12_common_15

set_option maxHeartbeats 4000000 in
set_option maxRecDepth 100000 in
theorem M114_X12_common (l : Launch) (G : va_G) (cy : Nat → ClassId) (sz : Nat) (i_0 : Int32) (i_1 : Int32) (h0 : mm_rg i_0 1 8) (h1 : mm_rg i_1 0 7)  : mm_CI l yX12_common (mm_ws yX12_common cX12_common 2 (some .int)) ({ frames := 7, cells := 0, slots := 0, locals := 147 } : Room) G cy sz [] [.int i_0, .int i_1] (fun u : Unit => []) (fun (r : Int32) (u : Unit) => mm_rg r 1 8 ∧ mm_gcd i_0 i_1 r) 0 0 := by
  refine mm_begin (lv := [(0, .int i_0), (1, .int i_1)]) (by decide) (Nat.le_of_ble_eq_true rfl) rfl ?_
  intro p e s m below meth c A ls R args Q H locs hRe hQ hAe hx hb hr hlocks hml hown hnm hts hsz hA hS hP hK hD hZ hl
  have hRf : R.frames = 7 := by rw [hRe]
  have hRl : R.locals = 147 := by rw [hRe]
  have hRc : R.cells = 0 := by rw [hRe]
  have hRs : R.slots = 0 := by rw [hRe]
  refine lv_iload_n hx hb dX12_common_0 rfl (lv_at hl 1 rfl) ?_
  refine lv_if_ne (tgt := 8) hx hb dX12_common_1 (by decide) (fun c1 => ?_) (fun c1 => ?_)
  · have q2 := mm_neL (lo := 1) (mm_ne c1) h1 mm_k0 (by decide) (by decide)
    refine lv_iload_n hx hb dX12_common_8 rfl (lv_at hl 1 rfl) ?_
    refine lv_iload_n hx hb dX12_common_9 rfl (lv_at hl 0 rfl) ?_
    refine lv_iload_n hx hb dX12_common_10 rfl (lv_at hl 1 rfl) ?_
    refine lv_irem hx hb dX12_common_11 (mm_nz q2 (by decide)) ?_
    refine lv_topi (fun v3 ev3 => ?_)
    have rv3 : mm_rg v3 0 6 := mm_rem ev3 h0 q2 (by decide) (by decide)
    refine mm_finir (va_runS (As := [.int i_1, .int v3]) (rest := []) ⟨hx, hb, hml, hown, hts⟩ (M113_X12_common l G cy H.size i_1 v3 q2 rv3) (va_cwS 2 hts (mm_gS mm_w706 mm_w707 mm_w5 mm_w708) rfl rfl rfl hs_X12_common ⟨by rw [hRf]; exact Nat.le_of_ble_eq_true rfl, by rw [hRl]; exact Nat.le_of_ble_eq_true rfl⟩) (mm_preS hK hZ hS hA hP hD [] rfl rfl) rfl rfl hl.1 rfl (lv_room (Nat.le_of_ble_eq_true rfl)) dX12_common_12 ⟨by rw [hRc]; exact Nat.le_of_ble_eq_true rfl, by rw [hRs]; exact Nat.le_of_ble_eq_true rfl⟩) hP hD hS hA [] rfl (fun _ => rfl) ?_
    clear hP hD hS
    clear H locs
    intro v4 _u H locs hw hP hD hS
    obtain ⟨w5, w6⟩ := hw
    have w7 : mm_gcd i_0 i_1 v4 := (mm_gcd_s w6 ev3 h0 q2 (by decide))
    subst hAe
    rw [hQ]
    exact W.iret (v := v4) hx hb hr (fun t ht hW => ⟨⟨v4, (), rfl, ⟨(mm_wk w5 (by decide)), w7⟩, by rw [ht]; exact hP, hK.warm hW, hD⟩, hS.F ht⟩) hS.2.2 dX12_common_15
  · have q8 := mm_eqI (lo := 0) (hi := 0) c1 h1 mm_k0 (by decide)
    refine lv_iload_n hx hb dX12_common_4 rfl (lv_at hl 0 rfl) ?_
    refine lv_goto (tgt := 15) hx hb dX12_common_5 (by decide) ?_
    have w9 : mm_gcd i_0 i_1 i_0 := (mm_gcd_0 h0 q8 (by decide))
    subst hAe
    rw [hQ]
    exact W.iret (v := i_0) hx hb hr (fun t ht hW => ⟨⟨i_0, (), rfl, ⟨h0, w9⟩, by rw [ht]; exact hP, hK.warm hW, hD⟩, hS.F ht⟩) hS.2.2 dX12_common_15

set_option maxHeartbeats 4000000 in
set_option maxRecDepth 100000 in
theorem M115_X12_common (l : Launch) (G : va_G) (cy : Nat → ClassId) (sz : Nat) (i_0 : Int32) (i_1 : Int32) (h0 : mm_rg i_0 1 9) (h1 : mm_rg i_1 0 8)  : mm_CI l yX12_common (mm_ws yX12_common cX12_common 2 (some .int)) ({ frames := 8, cells := 0, slots := 0, locals := 168 } : Room) G cy sz [] [.int i_0, .int i_1] (fun u : Unit => []) (fun (r : Int32) (u : Unit) => mm_rg r 1 9 ∧ mm_gcd i_0 i_1 r) 0 0 := by
  refine mm_begin (lv := [(0, .int i_0), (1, .int i_1)]) (by decide) (Nat.le_of_ble_eq_true rfl) rfl ?_
  intro p e s m below meth c A ls R args Q H locs hRe hQ hAe hx hb hr hlocks hml hown hnm hts hsz hA hS hP hK hD hZ hl
  have hRf : R.frames = 8 := by rw [hRe]
  have hRl : R.locals = 168 := by rw [hRe]
  have hRc : R.cells = 0 := by rw [hRe]
  have hRs : R.slots = 0 := by rw [hRe]
  refine lv_iload_n hx hb dX12_common_0 rfl (lv_at hl 1 rfl) ?_
  refine lv_if_ne (tgt := 8) hx hb dX12_common_1 (by decide) (fun c1 => ?_) (fun c1 => ?_)
  · have q2 := mm_neL (lo := 1) (mm_ne c1) h1 mm_k0 (by decide) (by decide)
    refine lv_iload_n hx hb dX12_common_8 rfl (lv_at hl 1 rfl) ?_
    refine lv_iload_n hx hb dX12_common_9 rfl (lv_at hl 0 rfl) ?_
    refine lv_iload_n hx hb dX12_common_10 rfl (lv_at hl 1 rfl) ?_
    refine lv_irem hx hb dX12_common_11 (mm_nz q2 (by decide)) ?_
    refine lv_topi (fun v3 ev3 => ?_)
    have rv3 : mm_rg v3 0 7 := mm_rem ev3 h0 q2 (by decide) (by decide)
    refine mm_finir (va_runS (As := [.int i_1, .int v3]) (rest := []) ⟨hx, hb, hml, hown, hts⟩ (M114_X12_common l G cy H.size i_1 v3 q2 rv3) (va_cwS 2 hts (mm_gS mm_w706 mm_w707 mm_w5 mm_w708) rfl rfl rfl hs_X12_common ⟨by rw [hRf]; exact Nat.le_of_ble_eq_true rfl, by rw [hRl]; exact Nat.le_of_ble_eq_true rfl⟩) (mm_preS hK hZ hS hA hP hD [] rfl rfl) rfl rfl hl.1 rfl (lv_room (Nat.le_of_ble_eq_true rfl)) dX12_common_12 ⟨by rw [hRc]; exact Nat.le_of_ble_eq_true rfl, by rw [hRs]; exact Nat.le_of_ble_eq_true rfl⟩) hP hD hS hA [] rfl (fun _ => rfl) ?_
    clear hP hD hS
    clear H locs
    intro v4 _u H locs hw hP hD hS
    obtain ⟨w5, w6⟩ := hw
    have w7 : mm_gcd i_0 i_1 v4 := (mm_gcd_s w6 ev3 h0 q2 (by decide))
    subst hAe
    rw [hQ]
    exact W.iret (v := v4) hx hb hr (fun t ht hW => ⟨⟨v4, (), rfl, ⟨(mm_wk w5 (by decide)), w7⟩, by rw [ht]; exact hP, hK.warm hW, hD⟩, hS.F ht⟩) hS.2.2 dX12_common_15
  · have q8 := mm_eqI (lo := 0) (hi := 0) c1 h1 mm_k0 (by decide)
    refine lv_iload_n hx hb dX12_common_4 rfl (lv_at hl 0 rfl) ?_
    refine lv_goto (tgt := 15) hx hb dX12_common_5 (by decide) ?_
    have w9 : mm_gcd i_0 i_1 i_0 := (mm_gcd_0 h0 q8 (by decide))
    subst hAe
    rw [hQ]
    exact W.iret (v := i_0) hx hb hr (fun t ht hW => ⟨⟨i_0, (), rfl, ⟨h0, w9⟩, by rw [ht]; exact hP, hK.warm hW, hD⟩, hS.F ht⟩) hS.2.2 dX12_common_15

set_option maxHeartbeats 4000000 in
set_option maxRecDepth 100000 in
theorem M116_X12_common (l : Launch) (G : va_G) (cy : Nat → ClassId) (sz : Nat) (i_0 : Int32) (i_1 : Int32) (h0 : mm_rg i_0 1 10) (h1 : mm_rg i_1 0 9)  : mm_CI l yX12_common (mm_ws yX12_common cX12_common 2 (some .int)) ({ frames := 9, cells := 0, slots := 0, locals := 189 } : Room) G cy sz [] [.int i_0, .int i_1] (fun u : Unit => []) (fun (r : Int32) (u : Unit) => mm_rg r 1 10 ∧ mm_gcd i_0 i_1 r) 0 0 := by
  refine mm_begin (lv := [(0, .int i_0), (1, .int i_1)]) (by decide) (Nat.le_of_ble_eq_true rfl) rfl ?_
  intro p e s m below meth c A ls R args Q H locs hRe hQ hAe hx hb hr hlocks hml hown hnm hts hsz hA hS hP hK hD hZ hl
  have hRf : R.frames = 9 := by rw [hRe]
  have hRl : R.locals = 189 := by rw [hRe]
  have hRc : R.cells = 0 := by rw [hRe]
  have hRs : R.slots = 0 := by rw [hRe]
  refine lv_iload_n hx hb dX12_common_0 rfl (lv_at hl 1 rfl) ?_
  refine lv_if_ne (tgt := 8) hx hb dX12_common_1 (by decide) (fun c1 => ?_) (fun c1 => ?_)
  · have q2 := mm_neL (lo := 1) (mm_ne c1) h1 mm_k0 (by decide) (by decide)
    refine lv_iload_n hx hb dX12_common_8 rfl (lv_at hl 1 rfl) ?_
    refine lv_iload_n hx hb dX12_common_9 rfl (lv_at hl 0 rfl) ?_
    refine lv_iload_n hx hb dX12_common_10 rfl (lv_at hl 1 rfl) ?_
    refine lv_irem hx hb dX12_common_11 (mm_nz q2 (by decide)) ?_
    refine lv_topi (fun v3 ev3 => ?_)
    have rv3 : mm_rg v3 0 8 := mm_rem ev3 h0 q2 (by decide) (by decide)
    refine mm_finir (va_runS (As := [.int i_1, .int v3]) (rest := []) ⟨hx, hb, hml, hown, hts⟩ (M115_X12_common l G cy H.size i_1 v3 q2 rv3) (va_cwS 2 hts (mm_gS mm_w706 mm_w707 mm_w5 mm_w708) rfl rfl rfl hs_X12_common ⟨by rw [hRf]; exact Nat.le_of_ble_eq_true rfl, by rw [hRl]; exact Nat.le_of_ble_eq_true rfl⟩) (mm_preS hK hZ hS hA hP hD [] rfl rfl) rfl rfl hl.1 rfl (lv_room (Nat.le_of_ble_eq_true rfl)) dX12_common_12 ⟨by rw [hRc]; exact Nat.le_of_ble_eq_true rfl, by rw [hRs]; exact Nat.le_of_ble_eq_true rfl⟩) hP hD hS hA [] rfl (fun _ => rfl) ?_
    clear hP hD hS
    clear H locs
    intro v4 _u H locs hw hP hD hS
    obtain ⟨w5, w6⟩ := hw
    have w7 : mm_gcd i_0 i_1 v4 := (mm_gcd_s w6 ev3 h0 q2 (by decide))
    subst hAe
    rw [hQ]
    exact W.iret (v := v4) hx hb hr (fun t ht hW => ⟨⟨v4, (), rfl, ⟨(mm_wk w5 (by decide)), w7⟩, by rw [ht]; exact hP, hK.warm hW, hD⟩, hS.F ht⟩) hS.2.2 dX12_common_15
  · have q8 := mm_eqI (lo := 0) (hi := 0) c1 h1 mm_k0 (by decide)
    refine lv_iload_n hx hb dX12_common_4 rfl (lv_at hl 0 rfl) ?_
    refine lv_goto (tgt := 15) hx hb dX12_common_5 (by decide) ?_
    have w9 : mm_gcd i_0 i_1 i_0 := (mm_gcd_0 h0 q8 (by decide))
    subst hAe
    rw [hQ]
    exact W.iret (v := i_0) hx hb hr (fun t ht hW => ⟨⟨i_0, (), rfl, ⟨h0, w9⟩, by rw [ht]; exact hP, hK.warm hW, hD⟩, hS.F ht⟩) hS.2.2 dX12_common_15

set_option maxHeartbeats 4000000 in
set_option maxRecDepth 100000 in
theorem M118_X12_common (l : Launch) (G : va_G) (cy : Nat → ClassId) (sz : Nat) (i_0 : Int32) (i_1 : Int32) (h0 : mm_rg i_0 1 30) (h1 : mm_rg i_1 1 10)  : mm_CI l yX12_common (mm_ws yX12_common cX12_common 2 (some .int)) ({ frames := 10, cells := 0, slots := 0, locals := 210 } : Room) G cy sz [] [.int i_0, .int i_1] (fun u : Unit => []) (fun (r : Int32) (u : Unit) => mm_rg r 1 10 ∧ mm_gcd i_0 i_1 r) 0 0 := by
  refine mm_begin (lv := [(0, .int i_0), (1, .int i_1)]) (by decide) (Nat.le_of_ble_eq_true rfl) rfl ?_
  intro p e s m below meth c A ls R args Q H locs hRe hQ hAe hx hb hr hlocks hml hown hnm hts hsz hA hS hP hK hD hZ hl
  have hRf : R.frames = 10 := by rw [hRe]
  have hRl : R.locals = 210 := by rw [hRe]
  have hRc : R.cells = 0 := by rw [hRe]
  have hRs : R.slots = 0 := by rw [hRe]
  refine lv_iload_n hx hb dX12_common_0 rfl (lv_at hl 1 rfl) ?_
  refine lv_if_ne (tgt := 8) hx hb dX12_common_1 (by decide) (fun c1 => ?_) (fun c1 => ?_)
  · refine lv_iload_n hx hb dX12_common_8 rfl (lv_at hl 1 rfl) ?_
    refine lv_iload_n hx hb dX12_common_9 rfl (lv_at hl 0 rfl) ?_
    refine lv_iload_n hx hb dX12_common_10 rfl (lv_at hl 1 rfl) ?_
    refine lv_irem hx hb dX12_common_11 (mm_nz h1 (by decide)) ?_
    refine lv_topi (fun v2 ev2 => ?_)
    have rv2 : mm_rg v2 0 9 := mm_rem ev2 h0 h1 (by decide) (by decide)
    refine mm_finir (va_runS (As := [.int i_1, .int v2]) (rest := []) ⟨hx, hb, hml, hown, hts⟩ (M116_X12_common l G cy H.size i_1 v2 h1 rv2) (va_cwS 2 hts (mm_gS mm_w706 mm_w707 mm_w5 mm_w708) rfl rfl rfl hs_X12_common ⟨by rw [hRf]; exact Nat.le_of_ble_eq_true rfl, by rw [hRl]; exact Nat.le_of_ble_eq_true rfl⟩) (mm_preS hK hZ hS hA hP hD [] rfl rfl) rfl rfl hl.1 rfl (lv_room (Nat.le_of_ble_eq_true rfl)) dX12_common_12 ⟨by rw [hRc]; exact Nat.le_of_ble_eq_true rfl, by rw [hRs]; exact Nat.le_of_ble_eq_true rfl⟩) hP hD hS hA [] rfl (fun _ => rfl) ?_
    clear hP hD hS
    clear H locs
    intro v3 _u H locs hw hP hD hS
    obtain ⟨w4, w5⟩ := hw
    have w6 : mm_gcd i_0 i_1 v3 := (mm_gcd_s w5 ev2 h0 h1 (by decide))
    subst hAe
    rw [hQ]
    exact W.iret (v := v3) hx hb hr (fun t ht hW => ⟨⟨v3, (), rfl, ⟨w4, w6⟩, by rw [ht]; exact hP, hK.warm hW, hD⟩, hS.F ht⟩) hS.2.2 dX12_common_15
  · exact mm_eqN c1.symm mm_k0 h1 (by decide)

set_option maxHeartbeats 4000000 in
set_option maxRecDepth 100000 in
theorem M119_X12_orderOf (l : Launch) (G : va_G) (cy : Nat → ClassId) (sz : Nat) (a_0 : Nat) (i_0 : Int32) (i_1 : Int32) (a_1 : Nat) (a_2 : Nat) (a_3 : Nat) (a_4 : Nat) (a_5 : Nat) (i_2 : Int32) (i_3 : Int32) (i_4 : Int32) (i_5 : Int32) (i_6 : Int32) (j_0 : Int64) (i_7 : Int32) (i_8 : Int32) (i_9 : Int32) (i_10 : Int32) (a_6 : Nat) (a_7 : Nat) (a_8 : Nat) (a_9 : Nat) (a_10 : Nat) (a_11 : Nat) (a_12 : Nat) (a_13 : Nat) (a_14 : Nat) (a_15 : Nat) (a_16 : Nat) (a_17 : Nat) (a_18 : Nat) (i_11 : Int32) (i_12 : Int32) (i_13 : Int32) (i_14 : Int32) (i_15 : Int32) (i_16 : Int32) (a_19 : Nat) (i_17 : Int32) (a_20 : Nat) (i_18 : Int32) (i_19 : Int32) (i_20 : Int32) (i_21 : Int32) (i_22 : Int32) (i_23 : Int32) (i_24 : Int32) (i_25 : Int32) (i_26 : Int32) (i_27 : Int32) (i_28 : Int32) (i_29 : Int32) (i_30 : Int32) (i_31 : Int32) (i_32 : Int32) (i_33 : Int32) (i_34 : Int32) (i_35 : Int32) (i_36 : Int32) (i_37 : Int32) (i_38 : Int32) (i_39 : Int32) (i_40 : Int32) (i_41 : Int32) (i_42 : Int32) (i_43 : Int32) (i_44 : Int32) (i_45 : Int32) (i_46 : Int32) (i_47 : Int32) (i_48 : Int32) (i_49 : Int32) (i_50 : Int32) (i_51 : Int32) (i_52 : Int32) (f_0 : Nat → Int32) (f_1 : Nat → Int32) (h0 : mm_rg i_0 0 2) (h1 : mm_rg i_18 0 601) (h2 : mm_rg i_19 0 601) (h3 : mm_rg i_20 0 601) (h4 : mm_rg i_21 0 601) (h5 : mm_rg i_22 0 601) (h6 : mm_rg i_23 0 10) (h7 : mm_rg i_24 0 99) (h8 : mm_rg i_25 0 9) (h9 : mm_rg i_26 0 3) (h10 : mm_rg i_27 0 6) (h11 : mm_rg i_28 0 30) (h12 : mm_rg i_29 0 10) (h13 : mm_rg i_30 0 99) (h14 : mm_rg i_31 0 9) (h15 : mm_rg i_32 0 3) (h16 : mm_rg i_33 0 6) (h17 : mm_rg i_34 0 30) (h18 : mm_rg i_35 0 10) (h19 : mm_rg i_36 0 99) (h20 : mm_rg i_37 0 9) (h21 : mm_rg i_38 0 3) (h22 : mm_rg i_39 0 6) (h23 : mm_rg i_40 0 30) (h24 : mm_rg i_41 0 10) (h25 : mm_rg i_42 0 99) (h26 : mm_rg i_43 0 9) (h27 : mm_rg i_44 0 3) (h28 : mm_rg i_45 0 6) (h29 : mm_rg i_46 0 30) (h30 : mm_rg i_47 0 10) (h31 : mm_rg i_48 0 99) (h32 : mm_rg i_49 0 9) (h33 : mm_rg i_50 0 3) (h34 : mm_rg i_51 0 6) (h35 : mm_rg i_52 0 30) (h36 : mm_ar f_0 0 7) (h37 : mm_ar f_1 0 9) (h38 : mm_rls f_0 f_1 0 i_25 i_26) (h39 : mm_tl i_18 i_26 i_27) (h40 : mm_rls f_0 f_1 1 i_31 i_32) (h41 : mm_tl i_19 i_32 i_33) (h42 : mm_rls f_0 f_1 2 i_37 i_38) (h43 : mm_tl i_20 i_38 i_39) (h44 : mm_rls f_0 f_1 3 i_43 i_44) (h45 : mm_tl i_21 i_44 i_45) (h46 : (i_0 : Int32).toInt < (i_26 : Int32).toInt)  : mm_CI l yX12_orderOf (mm_ws yX12_orderOf cX12_orderOf 4 (some .int)) ({ frames := 11, cells := 0, slots := 0, locals := 231 } : Room) G cy sz [(a_0, .inr (12, [.int i_1, .ref a_1, .ref a_2, .ref a_3, .ref a_4, .ref a_5, .int i_2, .int i_3, .int i_4, .int i_5, .int i_6, .long j_0, .int i_7, .int i_8, .int i_9, .int i_10, .ref a_6, .ref a_7, .ref a_8, .ref a_9, .ref a_10, .ref a_11, .ref a_12, .ref a_13, .ref a_14, .ref a_15, .ref a_16, .ref a_17, .ref a_18, .int i_11, .int i_12, .int i_13, .int i_14, .int i_15, .int i_16, .ref a_19, .int i_17, .ref a_20])), (a_6, .inl (cy 1, 5, .inl (mm_g [i_18, i_19, i_20, i_21, i_22]))), (a_7, .inl (cy 1, 30, .inl (mm_g [i_23, i_24, i_25, i_26, i_27, i_28, i_29, i_30, i_31, i_32, i_33, i_34, i_35, i_36, i_37, i_38, i_39, i_40, i_41, i_42, i_43, i_44, i_45, i_46, i_47, i_48, i_49, i_50, i_51, i_52]))), (a_9, .inl (cy 1, 15, .inl f_0)), (a_10, .inl (cy 1, 1050, .inl f_1))] [.ref a_0, .int i_0] (fun u : Unit => [(a_0, .inr (12, [.int i_1, .ref a_1, .ref a_2, .ref a_3, .ref a_4, .ref a_5, .int i_2, .int i_3, .int i_4, .int i_5, .int i_6, .long j_0, .int i_7, .int i_8, .int i_9, .int i_10, .ref a_6, .ref a_7, .ref a_8, .ref a_9, .ref a_10, .ref a_11, .ref a_12, .ref a_13, .ref a_14, .ref a_15, .ref a_16, .ref a_17, .ref a_18, .int i_11, .int i_12, .int i_13, .int i_14, .int i_15, .int i_16, .ref a_19, .int i_17, .ref a_20])), (a_6, .inl (cy 1, 5, .inl (mm_g [i_18, i_19, i_20, i_21, i_22]))), (a_7, .inl (cy 1, 30, .inl (mm_g [i_23, i_24, i_25, i_26, i_27, i_28, i_29, i_30, i_31, i_32, i_33, i_34, i_35, i_36, i_37, i_38, i_39, i_40, i_41, i_42, i_43, i_44, i_45, i_46, i_47, i_48, i_49, i_50, i_51, i_52]))), (a_9, .inl (cy 1, 15, .inl f_0)), (a_10, .inl (cy 1, 1050, .inl f_1))]) (fun (r : Int32) (u : Unit) => mm_rg r 1 30) 0 0 := by
  refine mm_begin (lv := [(0, .ref a_0), (1, .int i_0)]) (by decide) (Nat.le_of_ble_eq_true rfl) rfl ?_
  intro p e s m below meth c A ls R args Q H locs hRe hQ hAe hx hb hr hlocks hml hown hnm hts hsz hA hS hP hK hD hZ hl
  have hRf : R.frames = 11 := by rw [hRe]
  have hRl : R.locals = 231 := by rw [hRe]
  have hRc : R.cells = 0 := by rw [hRe]
  have hRs : R.slots = 0 := by rw [hRe]
  have q1 := mm_ltR (lo := 1) h46 h0 h9 (by decide)
  have q2 : mm_rg i_18 1 601 := mm_tl_3 h39 q1 h1 (by decide)
  refine lv_iconst (v := 1) hx hb dX12_orderOf_0 (by decide) ?_
  refine lv_istore_n (lv' := [(2, .int 1), (0, .ref a_0), (1, .int i_0)]) hx hb dX12_orderOf_1 rfl hl (by decide) rfl ?_
  clear hl
  clear ls
  intro ls hl
  refine lv_iconst (v := 0) hx hb dX12_orderOf_2 (by decide) ?_
  refine lv_istore_n (lv' := [(3, .int 0), (2, .int 1), (0, .ref a_0), (1, .int i_0)]) hx hb dX12_orderOf_3 rfl hl (by decide) rfl ?_
  clear hl
  clear ls
  intro ls hl
  have L4_239 : ∀ (n : Nat) (x4_3_237 : Int32) (x4_2_238 : Int32), mm_rg x4_3_237 0 10 → mm_rg x4_2_238 1 30 → mm_od f_0 f_1 i_0 x4_2_238 x4_3_237 → (10 - x4_3_237.toInt).toNat < n → ∀ (H : Heap) (locs : List Loc), va_P G vwCl [(a_0, .inr (12, [.int i_1, .ref a_1, .ref a_2, .ref a_3, .ref a_4, .ref a_5, .int i_2, .int i_3, .int i_4, .int i_5, .int i_6, .long j_0, .int i_7, .int i_8, .int i_9, .int i_10, .ref a_6, .ref a_7, .ref a_8, .ref a_9, .ref a_10, .ref a_11, .ref a_12, .ref a_13, .ref a_14, .ref a_15, .ref a_16, .ref a_17, .ref a_18, .int i_11, .int i_12, .int i_13, .int i_14, .int i_15, .int i_16, .ref a_19, .int i_17, .ref a_20])), (a_6, .inl (cy 1, 5, .inl (mm_g [i_18, i_19, i_20, i_21, i_22]))), (a_7, .inl (cy 1, 30, .inl (mm_g [i_23, i_24, i_25, i_26, i_27, i_28, i_29, i_30, i_31, i_32, i_33, i_34, i_35, i_36, i_37, i_38, i_39, i_40, i_41, i_42, i_43, i_44, i_45, i_46, i_47, i_48, i_49, i_50, i_51, i_52]))), (a_9, .inl (cy 1, 15, .inl f_0)), (a_10, .inl (cy 1, 1050, .inl f_1))] H → va_D A [(a_0, .inr (12, [.int i_1, .ref a_1, .ref a_2, .ref a_3, .ref a_4, .ref a_5, .int i_2, .int i_3, .int i_4, .int i_5, .int i_6, .long j_0, .int i_7, .int i_8, .int i_9, .int i_10, .ref a_6, .ref a_7, .ref a_8, .ref a_9, .ref a_10, .ref a_11, .ref a_12, .ref a_13, .ref a_14, .ref a_15, .ref a_16, .ref a_17, .ref a_18, .int i_11, .int i_12, .int i_13, .int i_14, .int i_15, .int i_16, .ref a_19, .int i_17, .ref a_20])), (a_6, .inl (cy 1, 5, .inl (mm_g [i_18, i_19, i_20, i_21, i_22]))), (a_7, .inl (cy 1, 30, .inl (mm_g [i_23, i_24, i_25, i_26, i_27, i_28, i_29, i_30, i_31, i_32, i_33, i_34, i_35, i_36, i_37, i_38, i_39, i_40, i_41, i_42, i_43, i_44, i_45, i_46, i_47, i_48, i_49, i_50, i_51, i_52]))), (a_9, .inl (cy 1, 15, .inl f_0)), (a_10, .inl (cy 1, 1050, .inl f_1))] → va_S A s.heap H locs → ∀ (ls : Array Slot), lv_has ls 4 [(3, .int x4_3_237), (2, .int x4_2_238), (0, .ref a_0), (1, .int i_0)] → W p l e R s m args below meth c H locs 0 0 Q (F0 m 4 ls []) := by
    intro n
    induction n with
    | zero => intro x4_3_237 x4_2_238 rx4_3_237 rx4_2_238 w239 hm; exact absurd hm (Nat.not_lt_zero _)
    | succ n ih4 =>
      intro x4_3_237 x4_2_238 rx4_3_237 rx4_2_238 w239 hm4 H locs hP hD hS ls hl
      refine lv_iload_n hx hb dX12_orderOf_4 rfl (lv_at hl 0 rfl) ?_
      refine lv_aload_n hx hb dX12_orderOf_5 rfl (lv_at hl 2 rfl) ?_
      refine mm_finir (va_runV (As := []) (rest := [.int x4_3_237]) ⟨hx, hb, hml, hown, hts⟩ (M100_X12_words l G cy H.size a_0 i_1 a_1 a_2 a_3 a_4 a_5 i_2 i_3 i_4 i_5 i_6 j_0 i_7 i_8 i_9 i_10 a_6 a_7 a_8 a_9 a_10 a_11 a_12 a_13 a_14 a_15 a_16 a_17 a_18 i_11 i_12 i_13 i_14 i_15 i_16 a_19 i_17 a_20 i_18 i_19 i_20 i_21 i_22 i_23 i_24 i_25 i_26 i_27 i_28 i_29 i_30 i_31 i_32 i_33 i_34 i_35 i_36 i_37 i_38 i_39 i_40 i_41 i_42 i_43 i_44 i_45 i_46 i_47 i_48 i_49 i_50 i_51 i_52 q2 h2 h3 h4 h5 h6 h7 h8 (mm_wk q1 (by decide)) h10 h11 h12 h13 h14 h15 h16 h17 h18 h19 h20 h21 h22 h23 h24 h25 h26 h27 h28 h29 h30 h31 h32 h33 h34 h35 h39 h41 h43 h45) (cwV 0 hts (mm_gV mm_w649 mm_w650 mm_w651 mm_w5 mm_w652) rfl rfl rfl hd_X12_words ⟨by rw [hRf]; exact Nat.le_of_ble_eq_true rfl, by rw [hRl]; exact Nat.le_of_ble_eq_true rfl⟩) (mm_preV hK hZ hS hA hP hD [0, 1, 2] rfl rfl 0 rfl rfl rfl) rfl rfl hl.1 rfl (lv_room (Nat.le_of_ble_eq_true rfl)) dX12_orderOf_6 ⟨by rw [hRc]; exact Nat.le_of_ble_eq_true rfl, by rw [hRs]; exact Nat.le_of_ble_eq_true rfl⟩) hP hD hS hA [0, 1, 2] rfl (fun _ => rfl) ?_
      clear hP hD hS
      clear H locs
      intro v241 _u H locs hw hP hD hS
      obtain ⟨w242, w243⟩ := hw
      have t244 : (v241 : Int32).toInt = (i_25 : Int32).toInt + 1 := w243
      refine lv_icmp_ge (tgt := 38) hx hb dX12_orderOf_9 (by decide) (fun c245 => ?_) (fun c245 => ?_)
      · have q246 := mm_leR (mm_le c245) w242 rx4_3_237
        refine lv_iload_n hx hb dX12_orderOf_38 rfl (lv_at hl 1 rfl) ?_
        subst hAe
        rw [hQ]
        exact W.iret (v := x4_2_238) hx hb hr (fun t ht hW => ⟨⟨x4_2_238, (), rfl, rx4_2_238, by rw [ht]; exact hP, hK.warm hW, hD⟩, hS.F ht⟩) hS.2.2 dX12_orderOf_39
      · have q247 := mm_ltL (h := 9) (mm_nle c245) rx4_3_237 w242 (by decide)
        refine lv_iload_n hx hb dX12_orderOf_12 rfl (lv_at hl 1 rfl) ?_
        refine lv_iload_n hx hb dX12_orderOf_13 rfl (lv_at hl 1 rfl) ?_
        refine lv_aload_n hx hb dX12_orderOf_14 rfl (lv_at hl 2 rfl) ?_
        refine lv_iload_n hx hb dX12_orderOf_15 rfl (lv_at hl 3 rfl) ?_
        refine lv_iload_n hx hb dX12_orderOf_16 rfl (lv_at hl 0 rfl) ?_
        refine mm_finir (va_runV (As := [.int i_0, .int x4_3_237]) (rest := [.int x4_2_238, .int x4_2_238]) ⟨hx, hb, hml, hown, hts⟩ (M106_X12_cycleOf l G cy H.size a_0 i_0 x4_3_237 i_1 a_1 a_2 a_3 a_4 a_5 i_2 i_3 i_4 i_5 i_6 j_0 i_7 i_8 i_9 i_10 a_6 a_7 a_8 a_9 a_10 a_11 a_12 a_13 a_14 a_15 a_16 a_17 a_18 i_11 i_12 i_13 i_14 i_15 i_16 a_19 i_17 a_20 f_0 f_1 h0 q247 h36 h37 (mm_rw_of h38 h46 (by have := t244; have := (mm_nle c245); omega) h0 q247 h8 (h36 _).2 (by decide))) (cwV 2 hts (mm_gV mm_w698 mm_w699 mm_w700 mm_w5 mm_w701) rfl rfl rfl hd_X12_cycleOf ⟨by rw [hRf]; exact Nat.le_of_ble_eq_true rfl, by rw [hRl]; exact Nat.le_of_ble_eq_true rfl⟩) (mm_preV hK hZ hS hA hP hD [0, 3, 4] rfl rfl 0 rfl rfl rfl) rfl rfl hl.1 rfl (lv_room (Nat.le_of_ble_eq_true rfl)) dX12_orderOf_17 ⟨by rw [hRc]; exact Nat.le_of_ble_eq_true rfl, by rw [hRs]; exact Nat.le_of_ble_eq_true rfl⟩) hP hD hS hA [0, 3, 4] rfl (fun _ => rfl) ?_
        clear hP hD hS
        clear H locs
        intro v248 _u H locs hw hP hD hS
        obtain ⟨w249, w250⟩ := hw
        refine mm_finir (va_runS (As := [.int x4_2_238, .int v248]) (rest := [.int x4_2_238]) ⟨hx, hb, hml, hown, hts⟩ (M118_X12_common l G cy H.size x4_2_238 v248 rx4_2_238 w249) (va_cwS 2 hts (mm_gS mm_w706 mm_w707 mm_w5 mm_w708) rfl rfl rfl hs_X12_common ⟨by rw [hRf]; exact Nat.le_of_ble_eq_true rfl, by rw [hRl]; exact Nat.le_of_ble_eq_true rfl⟩) (mm_preS hK hZ hS hA hP hD [] rfl rfl) rfl rfl hl.1 rfl (lv_room (Nat.le_of_ble_eq_true rfl)) dX12_orderOf_20 ⟨by rw [hRc]; exact Nat.le_of_ble_eq_true rfl, by rw [hRs]; exact Nat.le_of_ble_eq_true rfl⟩) hP hD hS hA [] rfl (fun _ => rfl) ?_
        clear hP hD hS
        clear H locs
        intro v251 _u H locs hw hP hD hS
        obtain ⟨w252, w253⟩ := hw
        refine lv_idiv hx hb dX12_orderOf_23 (mm_nz w252 (by decide)) ?_
        refine lv_topi (fun v254 ev254 => ?_)
        have rv254 : mm_rg v254 0 30 := mm_div ev254 rx4_2_238 w252 (by decide) (by decide)
        refine lv_aload_n hx hb dX12_orderOf_24 rfl (lv_at hl 2 rfl) ?_
        refine lv_iload_n hx hb dX12_orderOf_25 rfl (lv_at hl 3 rfl) ?_
        refine lv_iload_n hx hb dX12_orderOf_26 rfl (lv_at hl 0 rfl) ?_
        refine mm_finir (va_runV (As := [.int i_0, .int x4_3_237]) (rest := [.int v254]) ⟨hx, hb, hml, hown, hts⟩ (M106_X12_cycleOf l G cy H.size a_0 i_0 x4_3_237 i_1 a_1 a_2 a_3 a_4 a_5 i_2 i_3 i_4 i_5 i_6 j_0 i_7 i_8 i_9 i_10 a_6 a_7 a_8 a_9 a_10 a_11 a_12 a_13 a_14 a_15 a_16 a_17 a_18 i_11 i_12 i_13 i_14 i_15 i_16 a_19 i_17 a_20 f_0 f_1 h0 q247 h36 h37 (mm_rw_of h38 h46 (by have := t244; have := (mm_nle c245); omega) h0 q247 h8 (h36 _).2 (by decide))) (cwV 2 hts (mm_gV mm_w698 mm_w699 mm_w700 mm_w5 mm_w701) rfl rfl rfl hd_X12_cycleOf ⟨by rw [hRf]; exact Nat.le_of_ble_eq_true rfl, by rw [hRl]; exact Nat.le_of_ble_eq_true rfl⟩) (mm_preV hK hZ hS hA hP hD [0, 3, 4] rfl rfl 0 rfl rfl rfl) rfl rfl hl.1 rfl (lv_room (Nat.le_of_ble_eq_true rfl)) dX12_orderOf_27 ⟨by rw [hRc]; exact Nat.le_of_ble_eq_true rfl, by rw [hRs]; exact Nat.le_of_ble_eq_true rfl⟩) hP hD hS hA [0, 3, 4] rfl (fun _ => rfl) ?_
        clear hP hD hS
        clear H locs
        intro v255 _u H locs hw hP hD hS
        obtain ⟨w256, w257⟩ := hw
        refine lv_imul hx hb dX12_orderOf_30 ?_
        refine lv_topi (fun v258 ev258 => ?_)
        have rv258 : mm_rg v258 0 300 := mm_mul ev258 rv254 w256 (by decide) (by decide)
        have tv258 := mm_mulE ev258 (mm_wk (l2 := 0) (h2 := 30) rv254 (by decide)) (mm_wk (l2 := 0) (h2 := 10) w256 (by decide)) (by decide)
        refine lv_istore_n (lv' := [(2, .int v258), (3, .int x4_3_237), (0, .ref a_0), (1, .int i_0)]) hx hb dX12_orderOf_31 rfl hl (by decide) rfl ?_
        clear hl
        clear ls
        intro ls hl
        obtain ⟨v259, ev259⟩ : ∃ y : Int32, y = x4_3_237 + 1 := ⟨_, rfl⟩
        refine lv_iinc (v := v259) (lv' := [(3, .int v259), (2, .int v258), (0, .ref a_0), (1, .int i_0)]) hx hb dX12_orderOf_32 hl (k := 1) rfl (by rw [ev259]; rfl) (by decide) rfl ?_
        clear hl
        clear ls
        intro ls hl
        have rv259 : mm_rg v259 1 10 := mm_add ev259 q247 mm_k1 (by decide) (by decide)
        have tv259 := mm_addEc ev259 q247 mm_k1 (by decide) (k := 1) (by decide)
        refine lv_goto (tgt := 4) hx hb dX12_orderOf_35 (by decide) ?_
        have q260 : mm_rg v258 1 30 := mm_od_rg (mm_od_s w239 w250 w257 ev254 tv258 w253 tv259 rx4_2_238 w252 q247 (by decide)) h38 h46 (by have := tv259; have := (by have := t244; have := (mm_nle c245); omega); omega) h0 h8 q247 (h36 _).2 (by decide)
        exact ih4 v259 v258 (mm_wk rv259 (by decide)) q260 (mm_od_s w239 w250 w257 ev254 tv258 w253 tv259 rx4_2_238 w252 q247 (by decide)) (mm_mu hm4 tv259 (by decide) (rv259).2 (by decide)) H locs hP hD hS ls (lv_sub hl [0, 1, 2, 3] rfl)
  exact L4_239 _ 0 1 (mm_wk mm_k0 (by decide)) (mm_wk mm_k1 (by decide)) (mm_od_0 _ _ _) (Nat.lt_succ_self _) H locs hP hD hS ls (lv_sub hl [0, 1, 2, 3] rfl)

set_option maxHeartbeats 4000000 in
set_option maxRecDepth 100000 in
theorem M120_X12_isBook (l : Launch) (G : va_G) (cy : Nat → ClassId) (sz : Nat) (a_0 : Nat) (i_0 : Int32) (a_1 : Nat) (a_2 : Nat) (a_3 : Nat) (a_4 : Nat) (a_5 : Nat) (i_1 : Int32) (i_2 : Int32) (i_3 : Int32) (i_4 : Int32) (i_5 : Int32) (j_0 : Int64) (i_6 : Int32) (i_7 : Int32) (i_8 : Int32) (i_9 : Int32) (a_6 : Nat) (a_7 : Nat) (a_8 : Nat) (a_9 : Nat) (a_10 : Nat) (a_11 : Nat) (a_12 : Nat) (a_13 : Nat) (a_14 : Nat) (a_15 : Nat) (a_16 : Nat) (a_17 : Nat) (a_18 : Nat) (i_10 : Int32) (i_11 : Int32) (i_12 : Int32) (i_13 : Int32) (i_14 : Int32) (i_15 : Int32) (a_19 : Nat) (i_16 : Int32) (a_20 : Nat) (i_17 : Int32) (i_18 : Int32) (i_19 : Int32) (i_20 : Int32) (i_21 : Int32) (h0 : mm_rg i_17 0 601) (h1 : mm_rg i_18 0 601) (h2 : mm_rg i_19 0 601) (h3 : mm_rg i_20 0 601) (h4 : mm_rg i_21 0 601)  : mm_CI l yX12_isBook (mm_ws yX12_isBook cX12_isBook 1 (some .boolean)) ({ frames := 0, cells := 0, slots := 0, locals := 0 } : Room) G cy sz [(a_0, .inr (12, [.int i_0, .ref a_1, .ref a_2, .ref a_3, .ref a_4, .ref a_5, .int i_1, .int i_2, .int i_3, .int i_4, .int i_5, .long j_0, .int i_6, .int i_7, .int i_8, .int i_9, .ref a_6, .ref a_7, .ref a_8, .ref a_9, .ref a_10, .ref a_11, .ref a_12, .ref a_13, .ref a_14, .ref a_15, .ref a_16, .ref a_17, .ref a_18, .int i_10, .int i_11, .int i_12, .int i_13, .int i_14, .int i_15, .ref a_19, .int i_16, .ref a_20])), (a_6, .inl (cy 1, 5, .inl (mm_g [i_17, i_18, i_19, i_20, i_21])))] [.ref a_0] (fun u : Unit => [(a_0, .inr (12, [.int i_0, .ref a_1, .ref a_2, .ref a_3, .ref a_4, .ref a_5, .int i_1, .int i_2, .int i_3, .int i_4, .int i_5, .long j_0, .int i_6, .int i_7, .int i_8, .int i_9, .ref a_6, .ref a_7, .ref a_8, .ref a_9, .ref a_10, .ref a_11, .ref a_12, .ref a_13, .ref a_14, .ref a_15, .ref a_16, .ref a_17, .ref a_18, .int i_10, .int i_11, .int i_12, .int i_13, .int i_14, .int i_15, .ref a_19, .int i_16, .ref a_20])), (a_6, .inl (cy 1, 5, .inl (mm_g [i_17, i_18, i_19, i_20, i_21])))]) (fun (r : Int32) (u : Unit) => ((0 = r) ∨ (1 = r))) 0 0 := by
  refine mm_begin (lv := [(0, .ref a_0)]) (by decide) (Nat.le_of_ble_eq_true rfl) rfl ?_
  intro p e s m below meth c A ls R args Q H locs hRe hQ hAe hx hb hr hlocks hml hown hnm hts hsz hA hS hP hK hD hZ hl
  have hRf : R.frames = 0 := by rw [hRe]
  have hRl : R.locals = 0 := by rw [hRe]
  have hRc : R.cells = 0 := by rw [hRe]
  have hRs : R.slots = 0 := by rw [hRe]
  refine lv_aload_n hx hb dX12_isBook_0 rfl (lv_at hl 0 rfl) ?_
  refine va_get (D := G) (ci := 12) (v := .ref a_6) (C := RX12) (T := TX12) (N := 38) hx hb hts (mm_i inlX12) hown hK.1 hP 0 rfl rfl 16 (by decide) (mm_h hts mm_w148) (fun _ h9 => h9) rfl dX12_isBook_1 ?_
  refine lv_iconst (v := 0) hx hb dX12_isBook_4 (by decide) ?_
  refine va_iald hx hb hK.1 hP 1 1 rfl rfl (mm_in mm_k0 (by decide)) dX12_isBook_5 ?_
  rw [show (mm_g [i_17, i_18, i_19, i_20, i_21]) (0 : Int32).toNatClampNeg = i_17 from mm_ge 0 (by decide) rfl]
  refine lv_if_le (tgt := 13) hx hb dX12_isBook_6 (by decide) (fun c1 => ?_) (fun c1 => ?_)
  · have q2 := mm_leL (mm_le c1) h0 mm_k0
    refine lv_iconst (v := 0) hx hb dX12_isBook_13 (by decide) ?_
    subst hAe
    rw [hQ]
    exact W.zret (v := 0) hx hb hr rfl (fun t ht hW => ⟨⟨0, (), rfl, (Or.inl rfl), by rw [ht]; exact hP, hK.warm hW, hD⟩, hS.F ht⟩) hS.2.2 dX12_isBook_14
  · have q3 := mm_ltR (lo := 1) (mm_nle c1) mm_k0 h0 (by decide)
    refine lv_iconst (v := 1) hx hb dX12_isBook_9 (by decide) ?_
    refine lv_goto (tgt := 14) hx hb dX12_isBook_10 (by decide) ?_
    subst hAe
    rw [hQ]
    exact W.zret (v := 1) hx hb hr rfl (fun t ht hW => ⟨⟨1, (), rfl, (Or.inr rfl), by rw [ht]; exact hP, hK.warm hW, hD⟩, hS.F ht⟩) hS.2.2 dX12_isBook_14

set_option maxHeartbeats 4000000 in
set_option maxRecDepth 100000 in
theorem M121_X12_words (l : Launch) (G : va_G) (cy : Nat → ClassId) (sz : Nat) (a_0 : Nat) (i_0 : Int32) (a_1 : Nat) (a_2 : Nat) (a_3 : Nat) (a_4 : Nat) (a_5 : Nat) (i_1 : Int32) (i_2 : Int32) (i_3 : Int32) (i_4 : Int32) (i_5 : Int32) (j_0 : Int64) (i_6 : Int32) (i_7 : Int32) (i_8 : Int32) (i_9 : Int32) (a_6 : Nat) (a_7 : Nat) (a_8 : Nat) (a_9 : Nat) (a_10 : Nat) (a_11 : Nat) (a_12 : Nat) (a_13 : Nat) (a_14 : Nat) (a_15 : Nat) (a_16 : Nat) (a_17 : Nat) (a_18 : Nat) (i_10 : Int32) (i_11 : Int32) (i_12 : Int32) (i_13 : Int32) (i_14 : Int32) (i_15 : Int32) (a_19 : Nat) (i_16 : Int32) (a_20 : Nat) (i_17 : Int32) (i_18 : Int32) (i_19 : Int32) (i_20 : Int32) (i_21 : Int32) (i_22 : Int32) (i_23 : Int32) (i_24 : Int32) (i_25 : Int32) (i_26 : Int32) (i_27 : Int32) (i_28 : Int32) (i_29 : Int32) (i_30 : Int32) (i_31 : Int32) (i_32 : Int32) (i_33 : Int32) (i_34 : Int32) (i_35 : Int32) (i_36 : Int32) (i_37 : Int32) (i_38 : Int32) (i_39 : Int32) (i_40 : Int32) (i_41 : Int32) (i_42 : Int32) (i_43 : Int32) (i_44 : Int32) (i_45 : Int32) (i_46 : Int32) (i_47 : Int32) (i_48 : Int32) (i_49 : Int32) (i_50 : Int32) (i_51 : Int32) (h0 : mm_rg i_17 0 601) (h1 : mm_rg i_18 0 601) (h2 : mm_rg i_19 0 601) (h3 : mm_rg i_20 0 601) (h4 : mm_rg i_21 0 601) (h5 : mm_rg i_22 0 10) (h6 : mm_rg i_23 0 99) (h7 : mm_rg i_24 0 9) (h8 : mm_rg i_25 0 3) (h9 : mm_rg i_26 0 6) (h10 : mm_rg i_27 0 30) (h11 : mm_rg i_28 0 10) (h12 : mm_rg i_29 0 99) (h13 : mm_rg i_30 0 9) (h14 : mm_rg i_31 0 3) (h15 : mm_rg i_32 0 6) (h16 : mm_rg i_33 0 30) (h17 : mm_rg i_34 0 10) (h18 : mm_rg i_35 0 99) (h19 : mm_rg i_36 0 9) (h20 : mm_rg i_37 0 3) (h21 : mm_rg i_38 0 6) (h22 : mm_rg i_39 0 30) (h23 : mm_rg i_40 0 10) (h24 : mm_rg i_41 0 99) (h25 : mm_rg i_42 0 9) (h26 : mm_rg i_43 0 3) (h27 : mm_rg i_44 0 6) (h28 : mm_rg i_45 0 30) (h29 : mm_rg i_46 0 10) (h30 : mm_rg i_47 0 99) (h31 : mm_rg i_48 0 9) (h32 : mm_rg i_49 0 3) (h33 : mm_rg i_50 0 6) (h34 : mm_rg i_51 0 30) (h35 : mm_tl i_17 i_25 i_26) (h36 : mm_tl i_18 i_31 i_32) (h37 : mm_tl i_19 i_37 i_38) (h38 : mm_tl i_20 i_43 i_44)  : mm_CI l yX12_words (mm_ws yX12_words cX12_words 1 (some .int)) ({ frames := 1, cells := 0, slots := 0, locals := 20 } : Room) G cy sz [(a_0, .inr (12, [.int i_0, .ref a_1, .ref a_2, .ref a_3, .ref a_4, .ref a_5, .int i_1, .int i_2, .int i_3, .int i_4, .int i_5, .long j_0, .int i_6, .int i_7, .int i_8, .int i_9, .ref a_6, .ref a_7, .ref a_8, .ref a_9, .ref a_10, .ref a_11, .ref a_12, .ref a_13, .ref a_14, .ref a_15, .ref a_16, .ref a_17, .ref a_18, .int i_10, .int i_11, .int i_12, .int i_13, .int i_14, .int i_15, .ref a_19, .int i_16, .ref a_20])), (a_6, .inl (cy 1, 5, .inl (mm_g [i_17, i_18, i_19, i_20, i_21]))), (a_7, .inl (cy 1, 30, .inl (mm_g [i_22, i_23, i_24, i_25, i_26, i_27, i_28, i_29, i_30, i_31, i_32, i_33, i_34, i_35, i_36, i_37, i_38, i_39, i_40, i_41, i_42, i_43, i_44, i_45, i_46, i_47, i_48, i_49, i_50, i_51])))] [.ref a_0] (fun u : Unit => [(a_0, .inr (12, [.int i_0, .ref a_1, .ref a_2, .ref a_3, .ref a_4, .ref a_5, .int i_1, .int i_2, .int i_3, .int i_4, .int i_5, .long j_0, .int i_6, .int i_7, .int i_8, .int i_9, .ref a_6, .ref a_7, .ref a_8, .ref a_9, .ref a_10, .ref a_11, .ref a_12, .ref a_13, .ref a_14, .ref a_15, .ref a_16, .ref a_17, .ref a_18, .int i_10, .int i_11, .int i_12, .int i_13, .int i_14, .int i_15, .ref a_19, .int i_16, .ref a_20])), (a_6, .inl (cy 1, 5, .inl (mm_g [i_17, i_18, i_19, i_20, i_21]))), (a_7, .inl (cy 1, 30, .inl (mm_g [i_22, i_23, i_24, i_25, i_26, i_27, i_28, i_29, i_30, i_31, i_32, i_33, i_34, i_35, i_36, i_37, i_38, i_39, i_40, i_41, i_42, i_43, i_44, i_45, i_46, i_47, i_48, i_49, i_50, i_51])))]) (fun (r : Int32) (u : Unit) => mm_rg r 0 10) 0 0 := by
  refine mm_begin (lv := [(0, .ref a_0)]) (by decide) (Nat.le_of_ble_eq_true rfl) rfl ?_
  intro p e s m below meth c A ls R args Q H locs hRe hQ hAe hx hb hr hlocks hml hown hnm hts hsz hA hS hP hK hD hZ hl
  have hRf : R.frames = 1 := by rw [hRe]
  have hRl : R.locals = 20 := by rw [hRe]
  have hRc : R.cells = 0 := by rw [hRe]
  have hRs : R.slots = 0 := by rw [hRe]
  refine lv_aload_n hx hb dX12_words_0 rfl (lv_at hl 0 rfl) ?_
  refine mm_finir (va_runV (As := []) (rest := []) ⟨hx, hb, hml, hown, hts⟩ (M120_X12_isBook l G cy H.size a_0 i_0 a_1 a_2 a_3 a_4 a_5 i_1 i_2 i_3 i_4 i_5 j_0 i_6 i_7 i_8 i_9 a_6 a_7 a_8 a_9 a_10 a_11 a_12 a_13 a_14 a_15 a_16 a_17 a_18 i_10 i_11 i_12 i_13 i_14 i_15 a_19 i_16 a_20 i_17 i_18 i_19 i_20 i_21 h0 h1 h2 h3 h4) (cwV 0 hts (mm_gV mm_w653 mm_w654 mm_w655 mm_w5 mm_w656) rfl rfl rfl hd_X12_isBook ⟨by rw [hRf]; exact Nat.le_of_ble_eq_true rfl, by rw [hRl]; exact Nat.le_of_ble_eq_true rfl⟩) (mm_preV hK hZ hS hA hP hD [0, 1] rfl rfl 0 rfl rfl rfl) rfl rfl hl.1 rfl (lv_room (Nat.le_of_ble_eq_true rfl)) dX12_words_1 ⟨by rw [hRc]; exact Nat.le_of_ble_eq_true rfl, by rw [hRs]; exact Nat.le_of_ble_eq_true rfl⟩) hP hD hS hA [0, 1] rfl (fun _ => rfl) ?_
  clear hP hD hS
  clear H locs
  intro v1 _u H locs hw hP hD hS
  rcases hw with rfl | rfl
  · refine lv_if_eq (tgt := 16) hx hb dX12_words_4 (by decide) (fun c2 => ?_) (fun c2 => ?_)
    · refine lv_iconst (v := 0) hx hb dX12_words_16 (by decide) ?_
      subst hAe
      rw [hQ]
      exact W.iret (v := 0) hx hb hr (fun t ht hW => ⟨⟨0, (), rfl, (mm_wk mm_k0 (by decide)), by rw [ht]; exact hP, hK.warm hW, hD⟩, hS.F ht⟩) hS.2.2 dX12_words_17
    · exact absurd rfl (mm_ne c2)
  · refine lv_if_eq (tgt := 16) hx hb dX12_words_4 (by decide) (fun c3 => ?_) (fun c3 => ?_)
    · exact mm_eqN c3.symm mm_k0 mm_k1 (by decide)
    · refine lv_aload_n hx hb dX12_words_7 rfl (lv_at hl 0 rfl) ?_
      refine mm_finir (va_runV (As := []) (rest := []) ⟨hx, hb, hml, hown, hts⟩ (M92_X12_senses l G cy H.size a_0 i_0 a_1 a_2 a_3 a_4 a_5 i_1 i_2 i_3 i_4 i_5 j_0 i_6 i_7 i_8 i_9 a_6 a_7 a_8 a_9 a_10 a_11 a_12 a_13 a_14 a_15 a_16 a_17 a_18 i_10 i_11 i_12 i_13 i_14 i_15 a_19 i_16 a_20 i_22 i_23 i_24 i_25 i_26 i_27 i_28 i_29 i_30 i_31 i_32 i_33 i_34 i_35 i_36 i_37 i_38 i_39 i_40 i_41 i_42 i_43 i_44 i_45 i_46 i_47 i_48 i_49 i_50 i_51 h5 h6 h7 h8 h9 h10 h11 h12 h13 h14 h15 h16 h17 h18 h19 h20 h21 h22 h23 h24 h25 h26 h27 h28 h29 h30 h31 h32 h33 h34) (cwV 0 hts (mm_gV mm_w588 mm_w589 mm_w590 mm_w5 mm_w591) rfl rfl rfl hd_X12_senses ⟨by rw [hRf]; exact Nat.le_of_ble_eq_true rfl, by rw [hRl]; exact Nat.le_of_ble_eq_true rfl⟩) (mm_preV hK hZ hS hA hP hD [0, 2] rfl rfl 0 rfl rfl rfl) rfl rfl hl.1 rfl (lv_room (Nat.le_of_ble_eq_true rfl)) dX12_words_8 ⟨by rw [hRc]; exact Nat.le_of_ble_eq_true rfl, by rw [hRs]; exact Nat.le_of_ble_eq_true rfl⟩) hP hD hS hA [0, 2] rfl (fun _ => rfl) ?_
      clear hP hD hS
      clear H locs
      intro v4 _u H locs hw hP hD hS
      subst hw
      refine lv_iconst (v := 1) hx hb dX12_words_11 (by decide) ?_
      refine lv_iadd hx hb dX12_words_12 ?_
      refine lv_topi (fun v5 ev5 => ?_)
      have rv5 : mm_rg v5 1 10 := mm_add ev5 h7 mm_k1 (by decide) (by decide)
      have tv5 := mm_addEc ev5 h7 mm_k1 (by decide) (k := 1) (by decide)
      refine lv_goto (tgt := 17) hx hb dX12_words_13 (by decide) ?_
      subst hAe
      rw [hQ]
      exact W.iret (v := v5) hx hb hr (fun t ht hW => ⟨⟨v5, (), rfl, (mm_wk rv5 (by decide)), by rw [ht]; exact hP, hK.warm hW, hD⟩, hS.F ht⟩) hS.2.2 dX12_words_17

set_option maxHeartbeats 4000000 in
set_option maxRecDepth 100000 in
theorem M122_X12_means0 (l : Launch) (G : va_G) (cy : Nat → ClassId) (sz : Nat) (a_0 : Nat) (i_0 : Int32) (i_1 : Int32) (i_2 : Int32) (i_3 : Int32) (a_1 : Nat) (a_2 : Nat) (a_3 : Nat) (a_4 : Nat) (a_5 : Nat) (i_4 : Int32) (i_5 : Int32) (i_6 : Int32) (i_7 : Int32) (i_8 : Int32) (j_0 : Int64) (i_9 : Int32) (i_10 : Int32) (i_11 : Int32) (i_12 : Int32) (a_6 : Nat) (a_7 : Nat) (a_8 : Nat) (a_9 : Nat) (a_10 : Nat) (a_11 : Nat) (a_12 : Nat) (a_13 : Nat) (a_14 : Nat) (a_15 : Nat) (a_16 : Nat) (a_17 : Nat) (a_18 : Nat) (i_13 : Int32) (i_14 : Int32) (i_15 : Int32) (i_16 : Int32) (i_17 : Int32) (i_18 : Int32) (a_19 : Nat) (i_19 : Int32) (a_20 : Nat) (f_0 : Nat → Int32) (f_1 : Nat → Int32) (h0 : mm_rg i_0 0 2) (h1 : mm_rg i_1 0 1100000000) (h2 : mm_rg i_2 0 9) (h3 : mm_ar f_0 0 9) (h4 : mm_ar f_1 0 210) (h5 : mm_f1 f_1 i_0)  : mm_CI l yX12_means0 (mm_ws yX12_means0 cX12_means0 4 (some .int)) ({ frames := 0, cells := 0, slots := 0, locals := 0 } : Room) G cy sz [(a_0, .inr (12, [.int i_3, .ref a_1, .ref a_2, .ref a_3, .ref a_4, .ref a_5, .int i_4, .int i_5, .int i_6, .int i_7, .int i_8, .long j_0, .int i_9, .int i_10, .int i_11, .int i_12, .ref a_6, .ref a_7, .ref a_8, .ref a_9, .ref a_10, .ref a_11, .ref a_12, .ref a_13, .ref a_14, .ref a_15, .ref a_16, .ref a_17, .ref a_18, .int i_13, .int i_14, .int i_15, .int i_16, .int i_17, .int i_18, .ref a_19, .int i_19, .ref a_20])), (a_15, .inl (cy 1, 7200, .inl f_0)), (a_16, .inl (cy 1, 3, .inl f_1))] [.ref a_0, .int i_0, .int i_1, .int i_2] (fun u : Unit => [(a_0, .inr (12, [.int i_3, .ref a_1, .ref a_2, .ref a_3, .ref a_4, .ref a_5, .int i_4, .int i_5, .int i_6, .int i_7, .int i_8, .long j_0, .int i_9, .int i_10, .int i_11, .int i_12, .ref a_6, .ref a_7, .ref a_8, .ref a_9, .ref a_10, .ref a_11, .ref a_12, .ref a_13, .ref a_14, .ref a_15, .ref a_16, .ref a_17, .ref a_18, .int i_13, .int i_14, .int i_15, .int i_16, .int i_17, .int i_18, .ref a_19, .int i_19, .ref a_20])), (a_15, .inl (cy 1, 7200, .inl f_0)), (a_16, .inl (cy 1, 3, .inl f_1))]) (fun (r : Int32) (u : Unit) => mm_rg r 0 9 ∧ mm_m0 f_0 f_1 i_0 i_1 i_2 r) 0 0 := by
  refine mm_begin (lv := [(0, .ref a_0), (1, .int i_0), (2, .int i_1), (3, .int i_2)]) (by decide) (Nat.le_of_ble_eq_true rfl) rfl ?_
  intro p e s m below meth c A ls R args Q H locs hRe hQ hAe hx hb hr hlocks hml hown hnm hts hsz hA hS hP hK hD hZ hl
  have hRf : R.frames = 0 := by rw [hRe]
  have hRl : R.locals = 0 := by rw [hRe]
  have hRc : R.cells = 0 := by rw [hRe]
  have hRs : R.slots = 0 := by rw [hRe]
  refine lv_aload_n hx hb dX12_means0_0 rfl (lv_at hl 0 rfl) ?_
  refine va_get (D := G) (ci := 12) (v := .ref a_15) (C := RX12) (T := TX12) (N := 38) hx hb hts (mm_i inlX12) hown hK.1 hP 0 rfl rfl 25 (by decide) (mm_h hts mm_w157) (fun _ h9 => h9) rfl dX12_means0_1 ?_
  refine lv_sipush (v := 2400) hx hb dX12_means0_4 (by decide) ?_
  refine lv_iload_n hx hb dX12_means0_7 rfl (lv_at hl 1 rfl) ?_
  refine lv_imul hx hb dX12_means0_8 ?_
  refine lv_topi (fun v1 ev1 => ?_)
  have rv1 : mm_rg v1 0 4800 := mm_mul ev1 mm_k2400 h0 (by decide) (by decide)
  have tv1 := mm_mulEc ev1 mm_k2400 h0 (by decide) (k := 2400) (by decide)
  refine lv_bipush (v := 10) hx hb dX12_means0_9 (by decide) ?_
  refine lv_iload_n hx hb dX12_means0_11 rfl (lv_at hl 2 rfl) ?_
  refine lv_aload_n hx hb dX12_means0_12 rfl (lv_at hl 0 rfl) ?_
  refine va_get (D := G) (ci := 12) (v := .ref a_16) (C := RX12) (T := TX12) (N := 38) hx hb hts (mm_i inlX12) hown hK.1 hP 0 rfl rfl 26 (by decide) (mm_h hts mm_w158) (fun _ h9 => h9) rfl dX12_means0_13 ?_
  refine lv_iload_n hx hb dX12_means0_16 rfl (lv_at hl 1 rfl) ?_
  refine va_iald hx hb hK.1 hP 2 1 rfl rfl (mm_in h0 (by decide)) dX12_means0_17 ?_
  refine lv_topi (fun v2 ev2 => ?_)
  have rv2 : mm_rg v2 0 210 := mm_eqv ev2 (h4 _)
  have q3 : mm_rg v2 1 210 := mm_f1_ld h5 ev2 rv2
  refine lv_irem hx hb dX12_means0_18 (mm_nz q3 (by decide)) ?_
  refine lv_topi (fun v4 ev4 => ?_)
  have rv4 : mm_rg v4 0 209 := mm_rem ev4 h1 q3 (by decide) (by decide)
  refine lv_imul hx hb dX12_means0_19 ?_
  refine lv_topi (fun v5 ev5 => ?_)
  have rv5 : mm_rg v5 0 2090 := mm_mul ev5 mm_k10 rv4 (by decide) (by decide)
  have tv5 := mm_mulEc ev5 mm_k10 rv4 (by decide) (k := 10) (by decide)
  refine lv_iadd hx hb dX12_means0_20 ?_
  refine lv_topi (fun v6 ev6 => ?_)
  have rv6 : mm_rg v6 0 6890 := mm_add ev6 rv1 rv5 (by decide) (by decide)
  have tv6 := mm_addE ev6 rv1 rv5 (by decide)
  refine lv_iload_n hx hb dX12_means0_21 rfl (lv_at hl 3 rfl) ?_
  refine lv_iadd hx hb dX12_means0_22 ?_
  refine lv_topi (fun v7 ev7 => ?_)
  have rv7 : mm_rg v7 0 6899 := mm_add ev7 rv6 h2 (by decide) (by decide)
  have tv7 := mm_addE ev7 rv6 h2 (by decide)
  refine va_iald hx hb hK.1 hP 1 1 rfl rfl (mm_in rv7 (by decide)) dX12_means0_23 ?_
  refine lv_topi (fun v8 ev8 => ?_)
  have rv8 : mm_rg v8 0 9 := mm_eqv ev8 (h3 _)
  have w9 : mm_m0 f_0 f_1 i_0 i_1 i_2 v8 := (mm_m0_of ev8 ev4 ev2 (by have := tv7; have := tv6; have := tv5; have := tv1; omega) h0 h1 h2 q3 (by decide))
  subst hAe
  rw [hQ]
  exact W.iret (v := v8) hx hb hr (fun t ht hW => ⟨⟨v8, (), rfl, ⟨rv8, w9⟩, by rw [ht]; exact hP, hK.warm hW, hD⟩, hS.F ht⟩) hS.2.2 dX12_means0_24

set_option maxHeartbeats 4000000 in
set_option maxRecDepth 100000 in
theorem M123_X12_isRound (l : Launch) (G : va_G) (cy : Nat → ClassId) (sz : Nat) (a_0 : Nat) (i_0 : Int32) (i_1 : Int32) (i_2 : Int32) (a_1 : Nat) (a_2 : Nat) (a_3 : Nat) (a_4 : Nat) (a_5 : Nat) (i_3 : Int32) (i_4 : Int32) (i_5 : Int32) (i_6 : Int32) (i_7 : Int32) (j_0 : Int64) (i_8 : Int32) (i_9 : Int32) (i_10 : Int32) (i_11 : Int32) (a_6 : Nat) (a_7 : Nat) (a_8 : Nat) (a_9 : Nat) (a_10 : Nat) (a_11 : Nat) (a_12 : Nat) (a_13 : Nat) (a_14 : Nat) (a_15 : Nat) (a_16 : Nat) (a_17 : Nat) (a_18 : Nat) (i_12 : Int32) (i_13 : Int32) (i_14 : Int32) (i_15 : Int32) (i_16 : Int32) (i_17 : Int32) (a_19 : Nat) (i_18 : Int32) (a_20 : Nat) (i_19 : Int32) (i_20 : Int32) (i_21 : Int32) (i_22 : Int32) (i_23 : Int32) (i_24 : Int32) (i_25 : Int32) (i_26 : Int32) (i_27 : Int32) (i_28 : Int32) (i_29 : Int32) (i_30 : Int32) (i_31 : Int32) (i_32 : Int32) (i_33 : Int32) (i_34 : Int32) (i_35 : Int32) (i_36 : Int32) (i_37 : Int32) (i_38 : Int32) (i_39 : Int32) (i_40 : Int32) (i_41 : Int32) (i_42 : Int32) (i_43 : Int32) (i_44 : Int32) (i_45 : Int32) (i_46 : Int32) (i_47 : Int32) (i_48 : Int32) (i_49 : Int32) (i_50 : Int32) (i_51 : Int32) (i_52 : Int32) (i_53 : Int32) (f_0 : Nat → Int32) (f_1 : Nat → Int32) (h0 : mm_rg i_0 0 2) (h1 : mm_rg i_1 1 210) (h2 : mm_rg i_19 0 601) (h3 : mm_rg i_20 0 601) (h4 : mm_rg i_21 0 601) (h5 : mm_rg i_22 0 601) (h6 : mm_rg i_23 0 601) (h7 : mm_rg i_24 0 10) (h8 : mm_rg i_25 0 99) (h9 : mm_rg i_26 0 9) (h10 : mm_rg i_27 0 3) (h11 : mm_rg i_28 0 6) (h12 : mm_rg i_29 0 30) (h13 : mm_rg i_30 0 10) (h14 : mm_rg i_31 0 99) (h15 : mm_rg i_32 0 9) (h16 : mm_rg i_33 0 3) (h17 : mm_rg i_34 0 6) (h18 : mm_rg i_35 0 30) (h19 : mm_rg i_36 0 10) (h20 : mm_rg i_37 0 99) (h21 : mm_rg i_38 0 9) (h22 : mm_rg i_39 0 3) (h23 : mm_rg i_40 0 6) (h24 : mm_rg i_41 0 30) (h25 : mm_rg i_42 0 10) (h26 : mm_rg i_43 0 99) (h27 : mm_rg i_44 0 9) (h28 : mm_rg i_45 0 3) (h29 : mm_rg i_46 0 6) (h30 : mm_rg i_47 0 30) (h31 : mm_rg i_48 0 10) (h32 : mm_rg i_49 0 99) (h33 : mm_rg i_50 0 9) (h34 : mm_rg i_51 0 3) (h35 : mm_rg i_52 0 6) (h36 : mm_rg i_53 0 30) (h37 : mm_ar f_0 0 9) (h38 : mm_ar f_1 0 210) (h39 : mm_tl i_19 i_27 i_28) (h40 : mm_tl i_20 i_33 i_34) (h41 : mm_tl i_21 i_39 i_40) (h42 : mm_tl i_22 i_45 i_46) (h43 : mm_f1 f_1 i_0)  : mm_CI l yX12_isRound (mm_ws yX12_isRound cX12_isRound 5 (some .boolean)) ({ frames := 2, cells := 0, slots := 0, locals := 40 } : Room) G cy sz [(a_0, .inr (12, [.int i_2, .ref a_1, .ref a_2, .ref a_3, .ref a_4, .ref a_5, .int i_3, .int i_4, .int i_5, .int i_6, .int i_7, .long j_0, .int i_8, .int i_9, .int i_10, .int i_11, .ref a_6, .ref a_7, .ref a_8, .ref a_9, .ref a_10, .ref a_11, .ref a_12, .ref a_13, .ref a_14, .ref a_15, .ref a_16, .ref a_17, .ref a_18, .int i_12, .int i_13, .int i_14, .int i_15, .int i_16, .int i_17, .ref a_19, .int i_18, .ref a_20])), (a_6, .inl (cy 1, 5, .inl (mm_g [i_19, i_20, i_21, i_22, i_23]))), (a_7, .inl (cy 1, 30, .inl (mm_g [i_24, i_25, i_26, i_27, i_28, i_29, i_30, i_31, i_32, i_33, i_34, i_35, i_36, i_37, i_38, i_39, i_40, i_41, i_42, i_43, i_44, i_45, i_46, i_47, i_48, i_49, i_50, i_51, i_52, i_53]))), (a_15, .inl (cy 1, 7200, .inl f_0)), (a_16, .inl (cy 1, 3, .inl f_1))] [.ref a_0, .int i_0, .int i_1] (fun u : Unit => [(a_0, .inr (12, [.int i_2, .ref a_1, .ref a_2, .ref a_3, .ref a_4, .ref a_5, .int i_3, .int i_4, .int i_5, .int i_6, .int i_7, .long j_0, .int i_8, .int i_9, .int i_10, .int i_11, .ref a_6, .ref a_7, .ref a_8, .ref a_9, .ref a_10, .ref a_11, .ref a_12, .ref a_13, .ref a_14, .ref a_15, .ref a_16, .ref a_17, .ref a_18, .int i_12, .int i_13, .int i_14, .int i_15, .int i_16, .int i_17, .ref a_19, .int i_18, .ref a_20])), (a_6, .inl (cy 1, 5, .inl (mm_g [i_19, i_20, i_21, i_22, i_23]))), (a_7, .inl (cy 1, 30, .inl (mm_g [i_24, i_25, i_26, i_27, i_28, i_29, i_30, i_31, i_32, i_33, i_34, i_35, i_36, i_37, i_38, i_39, i_40, i_41, i_42, i_43, i_44, i_45, i_46, i_47, i_48, i_49, i_50, i_51, i_52, i_53]))), (a_15, .inl (cy 1, 7200, .inl f_0)), (a_16, .inl (cy 1, 3, .inl f_1))]) (fun (r : Int32) (u : Unit) => ((0 = r ∧ mm_nr f_1 i_0 i_1) ∨ (1 = r))) 0 0 := by
  refine mm_begin (lv := [(0, .ref a_0), (1, .int i_0), (2, .int i_1)]) (by decide) (Nat.le_of_ble_eq_true rfl) rfl ?_
  intro p e s m below meth c A ls R args Q H locs hRe hQ hAe hx hb hr hlocks hml hown hnm hts hsz hA hS hP hK hD hZ hl
  have hRf : R.frames = 2 := by rw [hRe]
  have hRl : R.locals = 40 := by rw [hRe]
  have hRc : R.cells = 0 := by rw [hRe]
  have hRs : R.slots = 0 := by rw [hRe]
  refine lv_iconst (v := 0) hx hb dX12_isRound_0 (by decide) ?_
  refine lv_istore_n (lv' := [(3, .int 0), (0, .ref a_0), (1, .int i_0), (2, .int i_1)]) hx hb dX12_isRound_1 rfl hl (by decide) rfl ?_
  clear hl
  clear ls
  intro ls hl
  have L2_3022 : ∀ (n : Nat) (x2_3_3022 : Int32), mm_rg x2_3_3022 0 210 → (210 - x2_3_3022.toInt).toNat < n → ∀ (H : Heap) (locs : List Loc), va_P G vwCl [(a_0, .inr (12, [.int i_2, .ref a_1, .ref a_2, .ref a_3, .ref a_4, .ref a_5, .int i_3, .int i_4, .int i_5, .int i_6, .int i_7, .long j_0, .int i_8, .int i_9, .int i_10, .int i_11, .ref a_6, .ref a_7, .ref a_8, .ref a_9, .ref a_10, .ref a_11, .ref a_12, .ref a_13, .ref a_14, .ref a_15, .ref a_16, .ref a_17, .ref a_18, .int i_12, .int i_13, .int i_14, .int i_15, .int i_16, .int i_17, .ref a_19, .int i_18, .ref a_20])), (a_6, .inl (cy 1, 5, .inl (mm_g [i_19, i_20, i_21, i_22, i_23]))), (a_7, .inl (cy 1, 30, .inl (mm_g [i_24, i_25, i_26, i_27, i_28, i_29, i_30, i_31, i_32, i_33, i_34, i_35, i_36, i_37, i_38, i_39, i_40, i_41, i_42, i_43, i_44, i_45, i_46, i_47, i_48, i_49, i_50, i_51, i_52, i_53]))), (a_15, .inl (cy 1, 7200, .inl f_0)), (a_16, .inl (cy 1, 3, .inl f_1))] H → va_D A [(a_0, .inr (12, [.int i_2, .ref a_1, .ref a_2, .ref a_3, .ref a_4, .ref a_5, .int i_3, .int i_4, .int i_5, .int i_6, .int i_7, .long j_0, .int i_8, .int i_9, .int i_10, .int i_11, .ref a_6, .ref a_7, .ref a_8, .ref a_9, .ref a_10, .ref a_11, .ref a_12, .ref a_13, .ref a_14, .ref a_15, .ref a_16, .ref a_17, .ref a_18, .int i_12, .int i_13, .int i_14, .int i_15, .int i_16, .int i_17, .ref a_19, .int i_18, .ref a_20])), (a_6, .inl (cy 1, 5, .inl (mm_g [i_19, i_20, i_21, i_22, i_23]))), (a_7, .inl (cy 1, 30, .inl (mm_g [i_24, i_25, i_26, i_27, i_28, i_29, i_30, i_31, i_32, i_33, i_34, i_35, i_36, i_37, i_38, i_39, i_40, i_41, i_42, i_43, i_44, i_45, i_46, i_47, i_48, i_49, i_50, i_51, i_52, i_53]))), (a_15, .inl (cy 1, 7200, .inl f_0)), (a_16, .inl (cy 1, 3, .inl f_1))] → va_S A s.heap H locs → ∀ (ls : Array Slot), lv_has ls 5 [(3, .int x2_3_3022), (0, .ref a_0), (1, .int i_0), (2, .int i_1)] → W p l e R s m args below meth c H locs 0 0 Q (F0 m 2 ls []) := by
    intro n
    induction n with
    | zero => intro x2_3_3022 rx2_3_3022 hm; exact absurd hm (Nat.not_lt_zero _)
    | succ n ih2 =>
      intro x2_3_3022 rx2_3_3022 hm2 H locs hP hD hS ls hl
      refine lv_iload_n hx hb dX12_isRound_2 rfl (lv_at hl 0 rfl) ?_
      refine lv_aload_n hx hb dX12_isRound_3 rfl (lv_at hl 1 rfl) ?_
      refine va_get (D := G) (ci := 12) (v := .ref a_16) (C := RX12) (T := TX12) (N := 38) hx hb hts (mm_i inlX12) hown hK.1 hP 0 rfl rfl 26 (by decide) (mm_h hts mm_w158) (fun _ h9 => h9) rfl dX12_isRound_4 ?_
      refine lv_iload_n hx hb dX12_isRound_7 rfl (lv_at hl 2 rfl) ?_
      refine va_iald hx hb hK.1 hP 4 1 rfl rfl (mm_in h0 (by decide)) dX12_isRound_8 ?_
      refine lv_topi (fun v3024 ev3024 => ?_)
      have rv3024 : mm_rg v3024 0 210 := mm_eqv ev3024 (h38 _)
      have q3025 : mm_rg v3024 1 210 := mm_f1_ld h43 ev3024 rv3024
      refine lv_icmp_ge (tgt := 59) hx hb dX12_isRound_9 (by decide) (fun c3026 => ?_) (fun c3026 => ?_)
      · have q3027 := mm_leR (mm_le c3026) q3025 rx2_3_3022
        refine lv_iconst (v := 1) hx hb dX12_isRound_59 (by decide) ?_
        subst hAe
        rw [hQ]
        exact W.zret (v := 1) hx hb hr rfl (fun t ht hW => ⟨⟨1, (), rfl, (Or.inr rfl), by rw [ht]; exact hP, hK.warm hW, hD⟩, hS.F ht⟩) hS.2.2 dX12_isRound_60
      · have q3028 := mm_ltL (h := 209) (mm_nle c3026) rx2_3_3022 q3025 (by decide)
        refine lv_iconst (v := 0) hx hb dX12_isRound_12 (by decide) ?_
        refine lv_istore (lv' := [(4, .int 0), (3, .int x2_3_3022), (0, .ref a_0), (1, .int i_0), (2, .int i_1)]) hx hb dX12_isRound_13 hl (by decide) rfl ?_
        clear hl
        clear ls
        intro ls hl
        have L15_3196 : ∀ (n : Nat) (x15_4_3196 : Int32), mm_rg x15_4_3196 0 10 → (10 - x15_4_3196.toInt).toNat < n → ∀ (H : Heap) (locs : List Loc), va_P G vwCl [(a_0, .inr (12, [.int i_2, .ref a_1, .ref a_2, .ref a_3, .ref a_4, .ref a_5, .int i_3, .int i_4, .int i_5, .int i_6, .int i_7, .long j_0, .int i_8, .int i_9, .int i_10, .int i_11, .ref a_6, .ref a_7, .ref a_8, .ref a_9, .ref a_10, .ref a_11, .ref a_12, .ref a_13, .ref a_14, .ref a_15, .ref a_16, .ref a_17, .ref a_18, .int i_12, .int i_13, .int i_14, .int i_15, .int i_16, .int i_17, .ref a_19, .int i_18, .ref a_20])), (a_6, .inl (cy 1, 5, .inl (mm_g [i_19, i_20, i_21, i_22, i_23]))), (a_7, .inl (cy 1, 30, .inl (mm_g [i_24, i_25, i_26, i_27, i_28, i_29, i_30, i_31, i_32, i_33, i_34, i_35, i_36, i_37, i_38, i_39, i_40, i_41, i_42, i_43, i_44, i_45, i_46, i_47, i_48, i_49, i_50, i_51, i_52, i_53]))), (a_15, .inl (cy 1, 7200, .inl f_0)), (a_16, .inl (cy 1, 3, .inl f_1))] H → va_D A [(a_0, .inr (12, [.int i_2, .ref a_1, .ref a_2, .ref a_3, .ref a_4, .ref a_5, .int i_3, .int i_4, .int i_5, .int i_6, .int i_7, .long j_0, .int i_8, .int i_9, .int i_10, .int i_11, .ref a_6, .ref a_7, .ref a_8, .ref a_9, .ref a_10, .ref a_11, .ref a_12, .ref a_13, .ref a_14, .ref a_15, .ref a_16, .ref a_17, .ref a_18, .int i_12, .int i_13, .int i_14, .int i_15, .int i_16, .int i_17, .ref a_19, .int i_18, .ref a_20])), (a_6, .inl (cy 1, 5, .inl (mm_g [i_19, i_20, i_21, i_22, i_23]))), (a_7, .inl (cy 1, 30, .inl (mm_g [i_24, i_25, i_26, i_27, i_28, i_29, i_30, i_31, i_32, i_33, i_34, i_35, i_36, i_37, i_38, i_39, i_40, i_41, i_42, i_43, i_44, i_45, i_46, i_47, i_48, i_49, i_50, i_51, i_52, i_53]))), (a_15, .inl (cy 1, 7200, .inl f_0)), (a_16, .inl (cy 1, 3, .inl f_1))] → va_S A s.heap H locs → ∀ (ls : Array Slot), lv_has ls 5 [(4, .int x15_4_3196), (3, .int x2_3_3022), (0, .ref a_0), (1, .int i_0), (2, .int i_1)] → W p l e R s m args below meth c H locs 0 0 Q (F0 m 15 ls []) := by
          intro n
          induction n with
          | zero => intro x15_4_3196 rx15_4_3196 hm; exact absurd hm (Nat.not_lt_zero _)
          | succ n ih15 =>
            intro x15_4_3196 rx15_4_3196 hm15 H locs hP hD hS ls hl
            refine lv_iload hx hb dX12_isRound_15 (lv_at hl 0 rfl) ?_
            refine lv_aload_n hx hb dX12_isRound_17 rfl (lv_at hl 2 rfl) ?_
            refine mm_finir (va_runV (As := []) (rest := [.int x15_4_3196]) ⟨hx, hb, hml, hown, hts⟩ (M121_X12_words l G cy H.size a_0 i_2 a_1 a_2 a_3 a_4 a_5 i_3 i_4 i_5 i_6 i_7 j_0 i_8 i_9 i_10 i_11 a_6 a_7 a_8 a_9 a_10 a_11 a_12 a_13 a_14 a_15 a_16 a_17 a_18 i_12 i_13 i_14 i_15 i_16 i_17 a_19 i_18 a_20 i_19 i_20 i_21 i_22 i_23 i_24 i_25 i_26 i_27 i_28 i_29 i_30 i_31 i_32 i_33 i_34 i_35 i_36 i_37 i_38 i_39 i_40 i_41 i_42 i_43 i_44 i_45 i_46 i_47 i_48 i_49 i_50 i_51 i_52 i_53 h2 h3 h4 h5 h6 h7 h8 h9 h10 h11 h12 h13 h14 h15 h16 h17 h18 h19 h20 h21 h22 h23 h24 h25 h26 h27 h28 h29 h30 h31 h32 h33 h34 h35 h36 h39 h40 h41 h42) (cwV 0 hts (mm_gV mm_w649 mm_w650 mm_w651 mm_w5 mm_w652) rfl rfl rfl hd_X12_words ⟨by rw [hRf]; exact Nat.le_of_ble_eq_true rfl, by rw [hRl]; exact Nat.le_of_ble_eq_true rfl⟩) (mm_preV hK hZ hS hA hP hD [0, 1, 2] rfl rfl 0 rfl rfl rfl) rfl rfl hl.1 rfl (lv_room (Nat.le_of_ble_eq_true rfl)) dX12_isRound_18 ⟨by rw [hRc]; exact Nat.le_of_ble_eq_true rfl, by rw [hRs]; exact Nat.le_of_ble_eq_true rfl⟩) hP hD hS hA [0, 1, 2] rfl (fun _ => rfl) ?_
            clear hP hD hS
            clear H locs
            intro v3198 _u H locs hw hP hD hS
            have w3199 := hw
            refine lv_icmp_ge (tgt := 53) hx hb dX12_isRound_21 (by decide) (fun c3200 => ?_) (fun c3200 => ?_)
            · obtain ⟨v3201, ev3201⟩ : ∃ y : Int32, y = x2_3_3022 + 1 := ⟨_, rfl⟩
              refine lv_iinc (v := v3201) (lv' := [(3, .int v3201), (4, .int x15_4_3196), (0, .ref a_0), (1, .int i_0), (2, .int i_1)]) hx hb dX12_isRound_53 hl (k := 1) rfl (by rw [ev3201]; rfl) (by decide) rfl ?_
              clear hl
              clear ls
              intro ls hl
              have rv3201 : mm_rg v3201 1 210 := mm_add ev3201 q3028 mm_k1 (by decide) (by decide)
              have tv3201 := mm_addEc ev3201 q3028 mm_k1 (by decide) (k := 1) (by decide)
              refine lv_goto (tgt := 2) hx hb dX12_isRound_56 (by decide) ?_
              exact ih2 v3201 (mm_wk rv3201 (by decide)) (mm_mu hm2 tv3201 (by decide) (rv3201).2 (by decide)) H locs hP hD hS ls (lv_sub hl [0, 2, 3, 4] rfl)
            · have q3202 := mm_ltL (h := 9) (mm_nle c3200) rx15_4_3196 w3199 (by decide)
              have q3203 := mm_ltR (lo := 1) (mm_nle c3200) rx15_4_3196 w3199 (by decide)
              refine lv_aload_n hx hb dX12_isRound_24 rfl (lv_at hl 2 rfl) ?_
              refine lv_iload_n hx hb dX12_isRound_25 rfl (lv_at hl 3 rfl) ?_
              refine lv_iload_n hx hb dX12_isRound_26 rfl (lv_at hl 1 rfl) ?_
              refine lv_iload hx hb dX12_isRound_27 (lv_at hl 0 rfl) ?_
              refine mm_finir (va_runV (As := [.int i_0, .int x2_3_3022, .int x15_4_3196]) (rest := []) ⟨hx, hb, hml, hown, hts⟩ (M122_X12_means0 l G cy H.size a_0 i_0 x2_3_3022 x15_4_3196 i_2 a_1 a_2 a_3 a_4 a_5 i_3 i_4 i_5 i_6 i_7 j_0 i_8 i_9 i_10 i_11 a_6 a_7 a_8 a_9 a_10 a_11 a_12 a_13 a_14 a_15 a_16 a_17 a_18 i_12 i_13 i_14 i_15 i_16 i_17 a_19 i_18 a_20 f_0 f_1 h0 (mm_wk q3028 (by decide)) q3202 h37 h38 h43) (cwV 3 hts (mm_gV mm_w713 mm_w714 mm_w715 mm_w5 mm_w716) rfl rfl rfl hd_X12_means0 ⟨by rw [hRf]; exact Nat.le_of_ble_eq_true rfl, by rw [hRl]; exact Nat.le_of_ble_eq_true rfl⟩) (mm_preV hK hZ hS hA hP hD [0, 3, 4] rfl rfl 0 rfl rfl rfl) rfl rfl hl.1 rfl (lv_room (Nat.le_of_ble_eq_true rfl)) dX12_isRound_29 ⟨by rw [hRc]; exact Nat.le_of_ble_eq_true rfl, by rw [hRs]; exact Nat.le_of_ble_eq_true rfl⟩) hP hD hS hA [0, 3, 4] rfl (fun _ => rfl) ?_
              clear hP hD hS
              clear H locs
              intro v3204 _u H locs hw hP hD hS
              obtain ⟨w3205, w3206⟩ := hw
              refine lv_aload_n hx hb dX12_isRound_32 rfl (lv_at hl 2 rfl) ?_
              refine lv_iload_n hx hb dX12_isRound_33 rfl (lv_at hl 3 rfl) ?_
              refine lv_iload_n hx hb dX12_isRound_34 rfl (lv_at hl 1 rfl) ?_
              refine lv_iload_n hx hb dX12_isRound_35 rfl (lv_at hl 4 rfl) ?_
              refine lv_iadd hx hb dX12_isRound_36 ?_
              refine lv_topi (fun v3207 ev3207 => ?_)
              have rv3207 : mm_rg v3207 1 419 := mm_add ev3207 q3028 h1 (by decide) (by decide)
              have tv3207 := mm_addE ev3207 q3028 h1 (by decide)
              refine lv_iload hx hb dX12_isRound_37 (lv_at hl 0 rfl) ?_
              refine mm_finir (va_runV (As := [.int i_0, .int v3207, .int x15_4_3196]) (rest := [.int v3204]) ⟨hx, hb, hml, hown, hts⟩ (M122_X12_means0 l G cy H.size a_0 i_0 v3207 x15_4_3196 i_2 a_1 a_2 a_3 a_4 a_5 i_3 i_4 i_5 i_6 i_7 j_0 i_8 i_9 i_10 i_11 a_6 a_7 a_8 a_9 a_10 a_11 a_12 a_13 a_14 a_15 a_16 a_17 a_18 i_12 i_13 i_14 i_15 i_16 i_17 a_19 i_18 a_20 f_0 f_1 h0 (mm_wk rv3207 (by decide)) q3202 h37 h38 h43) (cwV 3 hts (mm_gV mm_w713 mm_w714 mm_w715 mm_w5 mm_w716) rfl rfl rfl hd_X12_means0 ⟨by rw [hRf]; exact Nat.le_of_ble_eq_true rfl, by rw [hRl]; exact Nat.le_of_ble_eq_true rfl⟩) (mm_preV hK hZ hS hA hP hD [0, 3, 4] rfl rfl 0 rfl rfl rfl) rfl rfl hl.1 rfl (lv_room (Nat.le_of_ble_eq_true rfl)) dX12_isRound_39 ⟨by rw [hRc]; exact Nat.le_of_ble_eq_true rfl, by rw [hRs]; exact Nat.le_of_ble_eq_true rfl⟩) hP hD hS hA [0, 3, 4] rfl (fun _ => rfl) ?_
              clear hP hD hS
              clear H locs
              intro v3208 _u H locs hw hP hD hS
              obtain ⟨w3209, w3210⟩ := hw
              refine lv_icmp_eq (tgt := 47) hx hb dX12_isRound_42 (by decide) (fun c3211 => ?_) (fun c3211 => ?_)
              · obtain ⟨v3212, ev3212⟩ : ∃ y : Int32, y = x15_4_3196 + 1 := ⟨_, rfl⟩
                refine lv_iinc (v := v3212) (lv' := [(4, .int v3212), (3, .int x2_3_3022), (0, .ref a_0), (1, .int i_0), (2, .int i_1)]) hx hb dX12_isRound_47 hl (k := 0) rfl (by rw [ev3212]; rfl) (by decide) rfl ?_
                clear hl
                clear ls
                intro ls hl
                have rv3212 : mm_rg v3212 1 10 := mm_add ev3212 q3202 mm_k1 (by decide) (by decide)
                have tv3212 := mm_addEc ev3212 q3202 mm_k1 (by decide) (k := 1) (by decide)
                refine lv_goto (tgt := 15) hx hb dX12_isRound_50 (by decide) ?_
                exact ih15 v3212 (mm_wk rv3212 (by decide)) (mm_mu hm15 tv3212 (by decide) (rv3212).2 (by decide)) H locs hP hD hS ls (lv_sub hl [0, 1, 2, 3, 4] rfl)
              · refine lv_iconst (v := 0) hx hb dX12_isRound_45 (by decide) ?_
                have w3213 : mm_nr f_1 i_0 i_1 := (mm_nr_of w3206 w3210 (mm_ne c3211) tv3207 q3028 h1 trivial)
                subst hAe
                rw [hQ]
                exact W.zret (v := 0) hx hb hr rfl (fun t ht hW => ⟨⟨0, (), rfl, (Or.inl ⟨rfl, w3213⟩), by rw [ht]; exact hP, hK.warm hW, hD⟩, hS.F ht⟩) hS.2.2 dX12_isRound_46
        exact L15_3196 _ 0 (mm_wk mm_k0 (by decide)) (Nat.lt_succ_self _) H locs hP hD hS ls (lv_sub hl [0, 1, 2, 3, 4] rfl)
  exact L2_3022 _ 0 (mm_wk mm_k0 (by decide)) (Nat.lt_succ_self _) H locs hP hD hS ls (lv_sub hl [0, 1, 2, 3] rfl)

set_option maxHeartbeats 4000000 in
set_option maxRecDepth 100000 in
theorem M124_X12_laysLand (l : Launch) (G : va_G) (cy : Nat → ClassId) (sz : Nat) (a_0 : Nat) (i_0 : Int32) (i_1 : Int32) (a_1 : Nat) (a_2 : Nat) (a_3 : Nat) (a_4 : Nat) (a_5 : Nat) (i_2 : Int32) (i_3 : Int32) (i_4 : Int32) (i_5 : Int32) (i_6 : Int32) (j_0 : Int64) (i_7 : Int32) (i_8 : Int32) (i_9 : Int32) (i_10 : Int32) (a_6 : Nat) (a_7 : Nat) (a_8 : Nat) (a_9 : Nat) (a_10 : Nat) (a_11 : Nat) (a_12 : Nat) (a_13 : Nat) (a_14 : Nat) (a_15 : Nat) (a_16 : Nat) (a_17 : Nat) (a_18 : Nat) (i_11 : Int32) (i_12 : Int32) (i_13 : Int32) (i_14 : Int32) (i_15 : Int32) (i_16 : Int32) (a_19 : Nat) (i_17 : Int32) (a_20 : Nat) (i_18 : Int32) (i_19 : Int32) (i_20 : Int32) (i_21 : Int32) (i_22 : Int32) (i_23 : Int32) (i_24 : Int32) (i_25 : Int32) (i_26 : Int32) (i_27 : Int32) (i_28 : Int32) (i_29 : Int32) (i_30 : Int32) (i_31 : Int32) (i_32 : Int32) (i_33 : Int32) (i_34 : Int32) (i_35 : Int32) (i_36 : Int32) (i_37 : Int32) (i_38 : Int32) (i_39 : Int32) (i_40 : Int32) (i_41 : Int32) (i_42 : Int32) (i_43 : Int32) (i_44 : Int32) (i_45 : Int32) (i_46 : Int32) (i_47 : Int32) (i_48 : Int32) (i_49 : Int32) (i_50 : Int32) (i_51 : Int32) (i_52 : Int32) (f_0 : Nat → Int32) (f_1 : Nat → Int32) (f_2 : Nat → Int32) (f_3 : Nat → Int32) (f_4 : Nat → Int32) (f_5 : Nat → Int32) (h0 : mm_rg i_0 0 2) (h1 : mm_rg i_18 0 601) (h2 : mm_rg i_19 0 601) (h3 : mm_rg i_20 0 601) (h4 : mm_rg i_21 0 601) (h5 : mm_rg i_22 0 601) (h6 : mm_rg i_23 0 10) (h7 : mm_rg i_24 0 99) (h8 : mm_rg i_25 0 9) (h9 : mm_rg i_26 0 3) (h10 : mm_rg i_27 0 6) (h11 : mm_rg i_28 0 30) (h12 : mm_rg i_29 0 10) (h13 : mm_rg i_30 0 99) (h14 : mm_rg i_31 0 9) (h15 : mm_rg i_32 0 3) (h16 : mm_rg i_33 0 6) (h17 : mm_rg i_34 0 30) (h18 : mm_rg i_35 0 10) (h19 : mm_rg i_36 0 99) (h20 : mm_rg i_37 0 9) (h21 : mm_rg i_38 0 3) (h22 : mm_rg i_39 0 6) (h23 : mm_rg i_40 0 30) (h24 : mm_rg i_41 0 10) (h25 : mm_rg i_42 0 99) (h26 : mm_rg i_43 0 9) (h27 : mm_rg i_44 0 3) (h28 : mm_rg i_45 0 6) (h29 : mm_rg i_46 0 30) (h30 : mm_rg i_47 0 10) (h31 : mm_rg i_48 0 99) (h32 : mm_rg i_49 0 9) (h33 : mm_rg i_50 0 3) (h34 : mm_rg i_51 0 6) (h35 : mm_rg i_52 0 30) (h36 : mm_ar f_0 0 7) (h37 : mm_ar f_1 0 9) (h38 : mm_ar f_2 (-1) 99) (h39 : mm_ar f_3 0 9) (h40 : mm_ar f_4 0 210) (h41 : mm_ar f_5 0 210) (h42 : mm_rls f_0 f_1 0 i_25 i_26) (h43 : mm_acs f_2 0 i_25 i_26 i_28) (h44 : mm_tl i_18 i_26 i_27) (h45 : mm_rls f_0 f_1 1 i_31 i_32) (h46 : mm_acs f_2 1 i_31 i_32 i_34) (h47 : mm_tl i_19 i_32 i_33) (h48 : mm_rls f_0 f_1 2 i_37 i_38) (h49 : mm_acs f_2 2 i_37 i_38 i_40) (h50 : mm_tl i_20 i_38 i_39) (h51 : mm_rls f_0 f_1 3 i_43 i_44) (h52 : mm_acs f_2 3 i_43 i_44 i_46) (h53 : mm_tl i_21 i_44 i_45) (h54 : (i_0 : Int32).toInt < (i_26 : Int32).toInt)  : mm_CV l yX12_laysLand (mm_ws yX12_laysLand cX12_laysLand 6 (none)) ({ frames := 12, cells := 0, slots := 0, locals := 254 } : Room) G cy sz [(a_0, .inr (12, [.int i_1, .ref a_1, .ref a_2, .ref a_3, .ref a_4, .ref a_5, .int i_2, .int i_3, .int i_4, .int i_5, .int i_6, .long j_0, .int i_7, .int i_8, .int i_9, .int i_10, .ref a_6, .ref a_7, .ref a_8, .ref a_9, .ref a_10, .ref a_11, .ref a_12, .ref a_13, .ref a_14, .ref a_15, .ref a_16, .ref a_17, .ref a_18, .int i_11, .int i_12, .int i_13, .int i_14, .int i_15, .int i_16, .ref a_19, .int i_17, .ref a_20])), (a_6, .inl (cy 1, 5, .inl (mm_g [i_18, i_19, i_20, i_21, i_22]))), (a_7, .inl (cy 1, 30, .inl (mm_g [i_23, i_24, i_25, i_26, i_27, i_28, i_29, i_30, i_31, i_32, i_33, i_34, i_35, i_36, i_37, i_38, i_39, i_40, i_41, i_42, i_43, i_44, i_45, i_46, i_47, i_48, i_49, i_50, i_51, i_52]))), (a_9, .inl (cy 1, 15, .inl f_0)), (a_10, .inl (cy 1, 1050, .inl f_1)), (a_13, .inl (cy 1, 450, .inl f_2)), (a_15, .inl (cy 1, 7200, .inl f_3)), (a_16, .inl (cy 1, 3, .inl f_4)), (a_17, .inl (cy 1, 3, .inl f_5))] [.ref a_0, .int i_0] (fun u : (Nat → Int32) × (Nat → Int32) × (Nat → Int32) => [(a_0, .inr (12, [.int i_1, .ref a_1, .ref a_2, .ref a_3, .ref a_4, .ref a_5, .int i_2, .int i_3, .int i_4, .int i_5, .int i_6, .long j_0, .int i_7, .int i_8, .int i_9, .int i_10, .ref a_6, .ref a_7, .ref a_8, .ref a_9, .ref a_10, .ref a_11, .ref a_12, .ref a_13, .ref a_14, .ref a_15, .ref a_16, .ref a_17, .ref a_18, .int i_11, .int i_12, .int i_13, .int i_14, .int i_15, .int i_16, .ref a_19, .int i_17, .ref a_20])), (a_6, .inl (cy 1, 5, .inl (mm_g [i_18, i_19, i_20, i_21, i_22]))), (a_7, .inl (cy 1, 30, .inl (mm_g [i_23, i_24, i_25, i_26, i_27, i_28, i_29, i_30, i_31, i_32, i_33, i_34, i_35, i_36, i_37, i_38, i_39, i_40, i_41, i_42, i_43, i_44, i_45, i_46, i_47, i_48, i_49, i_50, i_51, i_52]))), (a_9, .inl (cy 1, 15, .inl f_0)), (a_10, .inl (cy 1, 1050, .inl f_1)), (a_13, .inl (cy 1, 450, .inl f_2)), (a_15, .inl (cy 1, 7200, .inl u.1)), (a_16, .inl (cy 1, 3, .inl u.2.1)), (a_17, .inl (cy 1, 3, .inl u.2.2))]) (fun u : (Nat → Int32) × (Nat → Int32) × (Nat → Int32) => mm_ar u.1 0 9 ∧ mm_ar u.2.1 0 210 ∧ mm_ar u.2.2 0 210 ∧ mm_ll f_3 f_4 f_5 u.1 u.2.1 u.2.2 i_0 i_25) 0 0 := by
  refine mm_begin (lv := [(0, .ref a_0), (1, .int i_0)]) (by decide) (Nat.le_of_ble_eq_true rfl) rfl ?_
  intro p e s m below meth c A ls R args Q H locs hRe hQ hAe hx hb hr hlocks hml hown hnm hts hsz hA hS hP hK hD hZ hl
  have hRf : R.frames = 12 := by rw [hRe]
  have hRl : R.locals = 254 := by rw [hRe]
  have hRc : R.cells = 0 := by rw [hRe]
  have hRs : R.slots = 0 := by rw [hRe]
  have q1 := mm_ltR (lo := 1) h54 h0 h9 (by decide)
  have q2 : mm_rg i_18 1 601 := mm_tl_3 h44 q1 h1 (by decide)
  refine lv_iconst (v := 0) hx hb dX12_laysLand_0 (by decide) ?_
  refine lv_istore_n (lv' := [(2, .int 0), (0, .ref a_0), (1, .int i_0)]) hx hb dX12_laysLand_1 rfl hl (by decide) rfl ?_
  clear hl
  clear ls
  intro ls hl
  have L2_143 : ∀ (n : Nat) (x2_2_141 : Int32) (z2_6_142 : Nat → Int32), mm_rg x2_2_141 0 10 → mm_ar z2_6_142 0 9 → mm_t0 f_3 z2_6_142 i_0 x2_2_141 → (10 - x2_2_141.toInt).toNat < n → ∀ (H : Heap) (locs : List Loc), va_P G vwCl [(a_0, .inr (12, [.int i_1, .ref a_1, .ref a_2, .ref a_3, .ref a_4, .ref a_5, .int i_2, .int i_3, .int i_4, .int i_5, .int i_6, .long j_0, .int i_7, .int i_8, .int i_9, .int i_10, .ref a_6, .ref a_7, .ref a_8, .ref a_9, .ref a_10, .ref a_11, .ref a_12, .ref a_13, .ref a_14, .ref a_15, .ref a_16, .ref a_17, .ref a_18, .int i_11, .int i_12, .int i_13, .int i_14, .int i_15, .int i_16, .ref a_19, .int i_17, .ref a_20])), (a_6, .inl (cy 1, 5, .inl (mm_g [i_18, i_19, i_20, i_21, i_22]))), (a_7, .inl (cy 1, 30, .inl (mm_g [i_23, i_24, i_25, i_26, i_27, i_28, i_29, i_30, i_31, i_32, i_33, i_34, i_35, i_36, i_37, i_38, i_39, i_40, i_41, i_42, i_43, i_44, i_45, i_46, i_47, i_48, i_49, i_50, i_51, i_52]))), (a_9, .inl (cy 1, 15, .inl f_0)), (a_10, .inl (cy 1, 1050, .inl f_1)), (a_13, .inl (cy 1, 450, .inl f_2)), (a_15, .inl (cy 1, 7200, .inl z2_6_142)), (a_16, .inl (cy 1, 3, .inl f_4)), (a_17, .inl (cy 1, 3, .inl f_5))] H → va_D A [(a_0, .inr (12, [.int i_1, .ref a_1, .ref a_2, .ref a_3, .ref a_4, .ref a_5, .int i_2, .int i_3, .int i_4, .int i_5, .int i_6, .long j_0, .int i_7, .int i_8, .int i_9, .int i_10, .ref a_6, .ref a_7, .ref a_8, .ref a_9, .ref a_10, .ref a_11, .ref a_12, .ref a_13, .ref a_14, .ref a_15, .ref a_16, .ref a_17, .ref a_18, .int i_11, .int i_12, .int i_13, .int i_14, .int i_15, .int i_16, .ref a_19, .int i_17, .ref a_20])), (a_6, .inl (cy 1, 5, .inl (mm_g [i_18, i_19, i_20, i_21, i_22]))), (a_7, .inl (cy 1, 30, .inl (mm_g [i_23, i_24, i_25, i_26, i_27, i_28, i_29, i_30, i_31, i_32, i_33, i_34, i_35, i_36, i_37, i_38, i_39, i_40, i_41, i_42, i_43, i_44, i_45, i_46, i_47, i_48, i_49, i_50, i_51, i_52]))), (a_9, .inl (cy 1, 15, .inl f_0)), (a_10, .inl (cy 1, 1050, .inl f_1)), (a_13, .inl (cy 1, 450, .inl f_2)), (a_15, .inl (cy 1, 7200, .inl z2_6_142)), (a_16, .inl (cy 1, 3, .inl f_4)), (a_17, .inl (cy 1, 3, .inl f_5))] → va_S A s.heap H locs → ∀ (ls : Array Slot), lv_has ls 6 [(2, .int x2_2_141), (0, .ref a_0), (1, .int i_0)] → W p l e R s m args below meth c H locs 0 0 Q (F0 m 2 ls []) := by
    intro n
    induction n with
    | zero => intro x2_2_141 z2_6_142 rx2_2_141 rz2_6_142 w143 hm; exact absurd hm (Nat.not_lt_zero _)
    | succ n ih2 =>
      intro x2_2_141 z2_6_142 rx2_2_141 rz2_6_142 w143 hm2 H locs hP hD hS ls hl
      refine lv_iload_n hx hb dX12_laysLand_2 rfl (lv_at hl 0 rfl) ?_
      refine lv_aload_n hx hb dX12_laysLand_3 rfl (lv_at hl 1 rfl) ?_
      refine mm_finir (va_runV (As := []) (rest := [.int x2_2_141]) ⟨hx, hb, hml, hown, hts⟩ (M100_X12_words l G cy H.size a_0 i_1 a_1 a_2 a_3 a_4 a_5 i_2 i_3 i_4 i_5 i_6 j_0 i_7 i_8 i_9 i_10 a_6 a_7 a_8 a_9 a_10 a_11 a_12 a_13 a_14 a_15 a_16 a_17 a_18 i_11 i_12 i_13 i_14 i_15 i_16 a_19 i_17 a_20 i_18 i_19 i_20 i_21 i_22 i_23 i_24 i_25 i_26 i_27 i_28 i_29 i_30 i_31 i_32 i_33 i_34 i_35 i_36 i_37 i_38 i_39 i_40 i_41 i_42 i_43 i_44 i_45 i_46 i_47 i_48 i_49 i_50 i_51 i_52 q2 h2 h3 h4 h5 h6 h7 h8 (mm_wk q1 (by decide)) h10 h11 h12 h13 h14 h15 h16 h17 h18 h19 h20 h21 h22 h23 h24 h25 h26 h27 h28 h29 h30 h31 h32 h33 h34 h35 h44 h47 h50 h53) (cwV 0 hts (mm_gV mm_w649 mm_w650 mm_w651 mm_w5 mm_w652) rfl rfl rfl hd_X12_words ⟨by rw [hRf]; exact Nat.le_of_ble_eq_true rfl, by rw [hRl]; exact Nat.le_of_ble_eq_true rfl⟩) (mm_preV hK hZ hS hA hP hD [0, 1, 2] rfl rfl 0 rfl rfl rfl) rfl rfl hl.1 rfl (lv_room (Nat.le_of_ble_eq_true rfl)) dX12_laysLand_4 ⟨by rw [hRc]; exact Nat.le_of_ble_eq_true rfl, by rw [hRs]; exact Nat.le_of_ble_eq_true rfl⟩) hP hD hS hA [0, 1, 2] rfl (fun _ => rfl) ?_
      clear hP hD hS
      clear H locs
      intro v145 _u H locs hw hP hD hS
      obtain ⟨w146, w147⟩ := hw
      have t148 : (v145 : Int32).toInt = (i_25 : Int32).toInt + 1 := w147
      refine lv_icmp_ge (tgt := 29) hx hb dX12_laysLand_7 (by decide) (fun c149 => ?_) (fun c149 => ?_)
      · have q150 := mm_leR (mm_le c149) w146 rx2_2_141
        refine lv_iconst (v := 0) hx hb dX12_laysLand_29 (by decide) ?_
        refine lv_istore_n (lv' := [(2, .int 0), (0, .ref a_0), (1, .int i_0)]) hx hb dX12_laysLand_30 rfl hl (by decide) rfl ?_
        clear hl
        clear ls
        intro ls hl
        have L31_538 : ∀ (n : Nat) (x31_2_536 : Int32) (z31_6_537 : Nat → Int32), mm_rg x31_2_536 0 30 → mm_ar z31_6_537 0 9 → mm_tp f_3 z31_6_537 i_0 i_25 → (30 - x31_2_536.toInt).toNat < n → ∀ (H : Heap) (locs : List Loc), va_P G vwCl [(a_0, .inr (12, [.int i_1, .ref a_1, .ref a_2, .ref a_3, .ref a_4, .ref a_5, .int i_2, .int i_3, .int i_4, .int i_5, .int i_6, .long j_0, .int i_7, .int i_8, .int i_9, .int i_10, .ref a_6, .ref a_7, .ref a_8, .ref a_9, .ref a_10, .ref a_11, .ref a_12, .ref a_13, .ref a_14, .ref a_15, .ref a_16, .ref a_17, .ref a_18, .int i_11, .int i_12, .int i_13, .int i_14, .int i_15, .int i_16, .ref a_19, .int i_17, .ref a_20])), (a_6, .inl (cy 1, 5, .inl (mm_g [i_18, i_19, i_20, i_21, i_22]))), (a_7, .inl (cy 1, 30, .inl (mm_g [i_23, i_24, i_25, i_26, i_27, i_28, i_29, i_30, i_31, i_32, i_33, i_34, i_35, i_36, i_37, i_38, i_39, i_40, i_41, i_42, i_43, i_44, i_45, i_46, i_47, i_48, i_49, i_50, i_51, i_52]))), (a_9, .inl (cy 1, 15, .inl f_0)), (a_10, .inl (cy 1, 1050, .inl f_1)), (a_13, .inl (cy 1, 450, .inl f_2)), (a_15, .inl (cy 1, 7200, .inl z31_6_537)), (a_16, .inl (cy 1, 3, .inl f_4)), (a_17, .inl (cy 1, 3, .inl f_5))] H → va_D A [(a_0, .inr (12, [.int i_1, .ref a_1, .ref a_2, .ref a_3, .ref a_4, .ref a_5, .int i_2, .int i_3, .int i_4, .int i_5, .int i_6, .long j_0, .int i_7, .int i_8, .int i_9, .int i_10, .ref a_6, .ref a_7, .ref a_8, .ref a_9, .ref a_10, .ref a_11, .ref a_12, .ref a_13, .ref a_14, .ref a_15, .ref a_16, .ref a_17, .ref a_18, .int i_11, .int i_12, .int i_13, .int i_14, .int i_15, .int i_16, .ref a_19, .int i_17, .ref a_20])), (a_6, .inl (cy 1, 5, .inl (mm_g [i_18, i_19, i_20, i_21, i_22]))), (a_7, .inl (cy 1, 30, .inl (mm_g [i_23, i_24, i_25, i_26, i_27, i_28, i_29, i_30, i_31, i_32, i_33, i_34, i_35, i_36, i_37, i_38, i_39, i_40, i_41, i_42, i_43, i_44, i_45, i_46, i_47, i_48, i_49, i_50, i_51, i_52]))), (a_9, .inl (cy 1, 15, .inl f_0)), (a_10, .inl (cy 1, 1050, .inl f_1)), (a_13, .inl (cy 1, 450, .inl f_2)), (a_15, .inl (cy 1, 7200, .inl z31_6_537)), (a_16, .inl (cy 1, 3, .inl f_4)), (a_17, .inl (cy 1, 3, .inl f_5))] → va_S A s.heap H locs → ∀ (ls : Array Slot), lv_has ls 6 [(2, .int x31_2_536), (0, .ref a_0), (1, .int i_0)] → W p l e R s m args below meth c H locs 0 0 Q (F0 m 31 ls []) := by
          intro n
          induction n with
          | zero => intro x31_2_536 z31_6_537 rx31_2_536 rz31_6_537 w538 hm; exact absurd hm (Nat.not_lt_zero _)
          | succ n ih31 =>
            intro x31_2_536 z31_6_537 rx31_2_536 rz31_6_537 w538 hm31 H locs hP hD hS ls hl
            refine lv_iload_n hx hb dX12_laysLand_31 rfl (lv_at hl 0 rfl) ?_
            refine lv_aload_n hx hb dX12_laysLand_32 rfl (lv_at hl 1 rfl) ?_
            refine va_get (D := G) (ci := 12) (v := .ref a_7) (C := RX12) (T := TX12) (N := 38) hx hb hts (mm_i inlX12) hown hK.1 hP 0 rfl rfl 17 (by decide) (mm_h hts mm_w149) (fun _ h9 => h9) rfl dX12_laysLand_33 ?_
            refine lv_iconst (v := 5) hx hb dX12_laysLand_36 (by decide) ?_
            refine va_iald hx hb hK.1 hP 2 1 rfl rfl (mm_in mm_k5 (by decide)) dX12_laysLand_37 ?_
            rw [show (mm_g [i_23, i_24, i_25, i_26, i_27, i_28, i_29, i_30, i_31, i_32, i_33, i_34, i_35, i_36, i_37, i_38, i_39, i_40, i_41, i_42, i_43, i_44, i_45, i_46, i_47, i_48, i_49, i_50, i_51, i_52]) (5 : Int32).toNatClampNeg = i_28 from mm_ge 5 (by decide) rfl]
            refine lv_icmp_ge (tgt := 127) hx hb dX12_laysLand_38 (by decide) (fun c540 => ?_) (fun c540 => ?_)
            · refine lv_aload_n hx hb dX12_laysLand_127 rfl (lv_at hl 1 rfl) ?_
              refine va_get (D := G) (ci := 12) (v := .ref a_16) (C := RX12) (T := TX12) (N := 38) hx hb hts (mm_i inlX12) hown hK.1 hP 0 rfl rfl 26 (by decide) (mm_h hts mm_w158) (fun _ h9 => h9) rfl dX12_laysLand_128 ?_
              refine lv_iload_n hx hb dX12_laysLand_131 rfl (lv_at hl 2 rfl) ?_
              refine lv_aload_n hx hb dX12_laysLand_132 rfl (lv_at hl 1 rfl) ?_
              refine va_get (D := G) (ci := 12) (v := .ref a_9) (C := RX12) (T := TX12) (N := 38) hx hb hts (mm_i inlX12) hown hK.1 hP 0 rfl rfl 19 (by decide) (mm_h hts mm_w151) (fun _ h9 => h9) rfl dX12_laysLand_133 ?_
              refine lv_iload_n hx hb dX12_laysLand_136 rfl (lv_at hl 2 rfl) ?_
              refine va_iald hx hb hK.1 hP 3 1 rfl rfl (mm_in h0 (by decide)) dX12_laysLand_137 ?_
              refine lv_topi (fun v541 ev541 => ?_)
              have rv541 : mm_rg v541 0 7 := mm_eqv ev541 (h36 _)
              refine lv_if_ne (tgt := 145) hx hb dX12_laysLand_138 (by decide) (fun c542 => ?_) (fun c542 => ?_)
              · have q543 := mm_neL (lo := 1) (mm_ne c542) rv541 mm_k0 (by decide) (by decide)
                refine lv_aload_n hx hb dX12_laysLand_145 rfl (lv_at hl 1 rfl) ?_
                refine va_get (D := G) (ci := 12) (v := .ref a_9) (C := RX12) (T := TX12) (N := 38) hx hb hts (mm_i inlX12) hown hK.1 hP 0 rfl rfl 19 (by decide) (mm_h hts mm_w151) (fun _ h9 => h9) rfl dX12_laysLand_146 ?_
                refine lv_iload_n hx hb dX12_laysLand_149 rfl (lv_at hl 2 rfl) ?_
                refine va_iald hx hb hK.1 hP 3 1 rfl rfl (mm_in h0 (by decide)) dX12_laysLand_150 ?_
                refine lv_topi (fun v544 ev544 => ?_)
                have rv544 : mm_rg v544 0 7 := mm_eqv ev544 (h36 _)
                obtain rfl : v541 = v544 := ev541.trans ev544.symm
                refine lv_aload_n hx hb dX12_laysLand_151 rfl (lv_at hl 1 rfl) ?_
                refine lv_iload_n hx hb dX12_laysLand_152 rfl (lv_at hl 2 rfl) ?_
                refine mm_finir (va_runV (As := [.int i_0]) (rest := [.int v541, .int i_0, .ref a_16]) ⟨hx, hb, hml, hown, hts⟩ (M119_X12_orderOf l G cy H.size a_0 i_0 i_1 a_1 a_2 a_3 a_4 a_5 i_2 i_3 i_4 i_5 i_6 j_0 i_7 i_8 i_9 i_10 a_6 a_7 a_8 a_9 a_10 a_11 a_12 a_13 a_14 a_15 a_16 a_17 a_18 i_11 i_12 i_13 i_14 i_15 i_16 a_19 i_17 a_20 i_18 i_19 i_20 i_21 i_22 i_23 i_24 i_25 i_26 i_27 i_28 i_29 i_30 i_31 i_32 i_33 i_34 i_35 i_36 i_37 i_38 i_39 i_40 i_41 i_42 i_43 i_44 i_45 i_46 i_47 i_48 i_49 i_50 i_51 i_52 f_0 f_1 h0 (mm_wk q2 (by decide)) h2 h3 h4 h5 h6 h7 h8 (mm_wk q1 (by decide)) h10 h11 h12 h13 h14 h15 h16 h17 h18 h19 h20 h21 h22 h23 h24 h25 h26 h27 h28 h29 h30 h31 h32 h33 h34 h35 h36 h37 h42 h44 h45 h47 h48 h50 h51 h53 h54) (cwV 1 hts (mm_gV mm_w694 mm_w695 mm_w696 mm_w5 mm_w697) rfl rfl rfl hd_X12_orderOf ⟨by rw [hRf]; exact Nat.le_of_ble_eq_true rfl, by rw [hRl]; exact Nat.le_of_ble_eq_true rfl⟩) (mm_preV hK hZ hS hA hP hD [0, 1, 2, 3, 4] rfl rfl 0 rfl rfl rfl) rfl rfl hl.1 rfl (lv_room (Nat.le_of_ble_eq_true rfl)) dX12_laysLand_153 ⟨by rw [hRc]; exact Nat.le_of_ble_eq_true rfl, by rw [hRs]; exact Nat.le_of_ble_eq_true rfl⟩) hP hD hS hA [0, 1, 2, 3, 4] rfl (fun _ => rfl) ?_
                clear hP hD hS
                clear H locs
                intro v545 _u H locs hw hP hD hS
                have w546 := hw
                refine lv_imul hx hb dX12_laysLand_156 ?_
                refine lv_topi (fun v547 ev547 => ?_)
                have rv547 : mm_rg v547 1 210 := mm_mul ev547 q543 w546 (by decide) (by decide)
                have tv547 := mm_mulE ev547 (mm_wk (l2 := 0) (h2 := 7) q543 (by decide)) (mm_wk (l2 := 0) (h2 := 30) w546 (by decide)) (by decide)
                refine va_iast hx hb hK.1 hP hD hS 7 1 rfl rfl (mm_in h0 (by decide)) dX12_laysLand_157 ?_
                clear hP hD hS
                clear H locs
                obtain ⟨g548, eg548⟩ : ∃ z : Nat → Int32, z = upd f_4 i_0.toNatClampNeg v547 := ⟨_, rfl⟩
                rw [← eg548]
                intro H locs (hP : va_P G vwCl [(a_0, .inr (12, [.int i_1, .ref a_1, .ref a_2, .ref a_3, .ref a_4, .ref a_5, .int i_2, .int i_3, .int i_4, .int i_5, .int i_6, .long j_0, .int i_7, .int i_8, .int i_9, .int i_10, .ref a_6, .ref a_7, .ref a_8, .ref a_9, .ref a_10, .ref a_11, .ref a_12, .ref a_13, .ref a_14, .ref a_15, .ref a_16, .ref a_17, .ref a_18, .int i_11, .int i_12, .int i_13, .int i_14, .int i_15, .int i_16, .ref a_19, .int i_17, .ref a_20])), (a_6, .inl (cy 1, 5, .inl (mm_g [i_18, i_19, i_20, i_21, i_22]))), (a_7, .inl (cy 1, 30, .inl (mm_g [i_23, i_24, i_25, i_26, i_27, i_28, i_29, i_30, i_31, i_32, i_33, i_34, i_35, i_36, i_37, i_38, i_39, i_40, i_41, i_42, i_43, i_44, i_45, i_46, i_47, i_48, i_49, i_50, i_51, i_52]))), (a_9, .inl (cy 1, 15, .inl f_0)), (a_10, .inl (cy 1, 1050, .inl f_1)), (a_13, .inl (cy 1, 450, .inl f_2)), (a_15, .inl (cy 1, 7200, .inl z31_6_537)), (a_16, .inl (cy 1, 3, .inl g548)), (a_17, .inl (cy 1, 3, .inl f_5))] H) (hD : va_D A [(a_0, .inr (12, [.int i_1, .ref a_1, .ref a_2, .ref a_3, .ref a_4, .ref a_5, .int i_2, .int i_3, .int i_4, .int i_5, .int i_6, .long j_0, .int i_7, .int i_8, .int i_9, .int i_10, .ref a_6, .ref a_7, .ref a_8, .ref a_9, .ref a_10, .ref a_11, .ref a_12, .ref a_13, .ref a_14, .ref a_15, .ref a_16, .ref a_17, .ref a_18, .int i_11, .int i_12, .int i_13, .int i_14, .int i_15, .int i_16, .ref a_19, .int i_17, .ref a_20])), (a_6, .inl (cy 1, 5, .inl (mm_g [i_18, i_19, i_20, i_21, i_22]))), (a_7, .inl (cy 1, 30, .inl (mm_g [i_23, i_24, i_25, i_26, i_27, i_28, i_29, i_30, i_31, i_32, i_33, i_34, i_35, i_36, i_37, i_38, i_39, i_40, i_41, i_42, i_43, i_44, i_45, i_46, i_47, i_48, i_49, i_50, i_51, i_52]))), (a_9, .inl (cy 1, 15, .inl f_0)), (a_10, .inl (cy 1, 1050, .inl f_1)), (a_13, .inl (cy 1, 450, .inl f_2)), (a_15, .inl (cy 1, 7200, .inl z31_6_537)), (a_16, .inl (cy 1, 3, .inl g548)), (a_17, .inl (cy 1, 3, .inl f_5))]) hS
                have rg548 : mm_ar g548 0 210 := by rw [eg548]; exact mm_ar_upd (mm_ar_wk h40 (by decide)) (mm_wk rv547 (by decide)) _
                refine lv_iconst (v := 0) hx hb dX12_laysLand_158 (by decide) ?_
                refine lv_istore_n (lv' := [(2, .int 0), (0, .ref a_0), (1, .int i_0)]) hx hb dX12_laysLand_159 rfl hl (by decide) rfl ?_
                clear hl
                clear ls
                intro ls hl
                have L160_4667 : ∀ (n : Nat) (x160_2_4665 : Int32) (z160_6_4666 : Nat → Int32), mm_rg x160_2_4665 0 209 → mm_ar z160_6_4666 0 9 → mm_td f_3 z160_6_4666 i_0 x160_2_4665 i_25 → (209 - x160_2_4665.toInt).toNat < n → ∀ (H : Heap) (locs : List Loc), va_P G vwCl [(a_0, .inr (12, [.int i_1, .ref a_1, .ref a_2, .ref a_3, .ref a_4, .ref a_5, .int i_2, .int i_3, .int i_4, .int i_5, .int i_6, .long j_0, .int i_7, .int i_8, .int i_9, .int i_10, .ref a_6, .ref a_7, .ref a_8, .ref a_9, .ref a_10, .ref a_11, .ref a_12, .ref a_13, .ref a_14, .ref a_15, .ref a_16, .ref a_17, .ref a_18, .int i_11, .int i_12, .int i_13, .int i_14, .int i_15, .int i_16, .ref a_19, .int i_17, .ref a_20])), (a_6, .inl (cy 1, 5, .inl (mm_g [i_18, i_19, i_20, i_21, i_22]))), (a_7, .inl (cy 1, 30, .inl (mm_g [i_23, i_24, i_25, i_26, i_27, i_28, i_29, i_30, i_31, i_32, i_33, i_34, i_35, i_36, i_37, i_38, i_39, i_40, i_41, i_42, i_43, i_44, i_45, i_46, i_47, i_48, i_49, i_50, i_51, i_52]))), (a_9, .inl (cy 1, 15, .inl f_0)), (a_10, .inl (cy 1, 1050, .inl f_1)), (a_13, .inl (cy 1, 450, .inl f_2)), (a_15, .inl (cy 1, 7200, .inl z160_6_4666)), (a_16, .inl (cy 1, 3, .inl g548)), (a_17, .inl (cy 1, 3, .inl f_5))] H → va_D A [(a_0, .inr (12, [.int i_1, .ref a_1, .ref a_2, .ref a_3, .ref a_4, .ref a_5, .int i_2, .int i_3, .int i_4, .int i_5, .int i_6, .long j_0, .int i_7, .int i_8, .int i_9, .int i_10, .ref a_6, .ref a_7, .ref a_8, .ref a_9, .ref a_10, .ref a_11, .ref a_12, .ref a_13, .ref a_14, .ref a_15, .ref a_16, .ref a_17, .ref a_18, .int i_11, .int i_12, .int i_13, .int i_14, .int i_15, .int i_16, .ref a_19, .int i_17, .ref a_20])), (a_6, .inl (cy 1, 5, .inl (mm_g [i_18, i_19, i_20, i_21, i_22]))), (a_7, .inl (cy 1, 30, .inl (mm_g [i_23, i_24, i_25, i_26, i_27, i_28, i_29, i_30, i_31, i_32, i_33, i_34, i_35, i_36, i_37, i_38, i_39, i_40, i_41, i_42, i_43, i_44, i_45, i_46, i_47, i_48, i_49, i_50, i_51, i_52]))), (a_9, .inl (cy 1, 15, .inl f_0)), (a_10, .inl (cy 1, 1050, .inl f_1)), (a_13, .inl (cy 1, 450, .inl f_2)), (a_15, .inl (cy 1, 7200, .inl z160_6_4666)), (a_16, .inl (cy 1, 3, .inl g548)), (a_17, .inl (cy 1, 3, .inl f_5))] → va_S A s.heap H locs → ∀ (ls : Array Slot), lv_has ls 6 [(2, .int x160_2_4665), (0, .ref a_0), (1, .int i_0)] → W p l e R s m args below meth c H locs 0 0 Q (F0 m 160 ls []) := by
                  intro n
                  induction n with
                  | zero => intro x160_2_4665 z160_6_4666 rx160_2_4665 rz160_6_4666 w4667 hm; exact absurd hm (Nat.not_lt_zero _)
                  | succ n ih160 =>
                    intro x160_2_4665 z160_6_4666 rx160_2_4665 rz160_6_4666 w4667 hm160 H locs hP hD hS ls hl
                    refine lv_iload_n hx hb dX12_laysLand_160 rfl (lv_at hl 0 rfl) ?_
                    refine lv_iconst (v := 1) hx hb dX12_laysLand_161 (by decide) ?_
                    refine lv_iadd hx hb dX12_laysLand_162 ?_
                    refine lv_topi (fun v4669 ev4669 => ?_)
                    have rv4669 : mm_rg v4669 1 210 := mm_add ev4669 rx160_2_4665 mm_k1 (by decide) (by decide)
                    have tv4669 := mm_addEc ev4669 rx160_2_4665 mm_k1 (by decide) (k := 1) (by decide)
                    refine lv_aload_n hx hb dX12_laysLand_163 rfl (lv_at hl 1 rfl) ?_
                    refine va_get (D := G) (ci := 12) (v := .ref a_16) (C := RX12) (T := TX12) (N := 38) hx hb hts (mm_i inlX12) hown hK.1 hP 0 rfl rfl 26 (by decide) (mm_h hts mm_w158) (fun _ h9 => h9) rfl dX12_laysLand_164 ?_
                    refine lv_iload_n hx hb dX12_laysLand_167 rfl (lv_at hl 2 rfl) ?_
                    refine va_iald hx hb hK.1 hP 7 1 rfl rfl (mm_in h0 (by decide)) dX12_laysLand_168 ?_
                    refine lv_topi (fun v4670 ev4670 => ?_)
                    obtain rfl : v547 = v4670 := (ev4670.trans (by rw [eg548]; exact pk_us)).symm
                    refine lv_icmp_ge (tgt := 258) hx hb dX12_laysLand_169 (by decide) (fun c4671 => ?_) (fun c4671 => ?_)
                    · refine lv_aload_n hx hb dX12_laysLand_258 rfl (lv_at hl 1 rfl) ?_
                      refine va_get (D := G) (ci := 12) (v := .ref a_17) (C := RX12) (T := TX12) (N := 38) hx hb hts (mm_i inlX12) hown hK.1 hP 0 rfl rfl 27 (by decide) (mm_h hts mm_w159) (fun _ h9 => h9) rfl dX12_laysLand_259 ?_
                      refine lv_iload_n hx hb dX12_laysLand_262 rfl (lv_at hl 2 rfl) ?_
                      refine lv_iconst (v := 1) hx hb dX12_laysLand_263 (by decide) ?_
                      refine va_iast hx hb hK.1 hP hD hS 8 1 rfl rfl (mm_in h0 (by decide)) dX12_laysLand_264 ?_
                      clear hP hD hS
                      clear H locs
                      obtain ⟨g4672, eg4672⟩ : ∃ z : Nat → Int32, z = upd f_5 i_0.toNatClampNeg 1 := ⟨_, rfl⟩
                      rw [← eg4672]
                      intro H locs (hP : va_P G vwCl [(a_0, .inr (12, [.int i_1, .ref a_1, .ref a_2, .ref a_3, .ref a_4, .ref a_5, .int i_2, .int i_3, .int i_4, .int i_5, .int i_6, .long j_0, .int i_7, .int i_8, .int i_9, .int i_10, .ref a_6, .ref a_7, .ref a_8, .ref a_9, .ref a_10, .ref a_11, .ref a_12, .ref a_13, .ref a_14, .ref a_15, .ref a_16, .ref a_17, .ref a_18, .int i_11, .int i_12, .int i_13, .int i_14, .int i_15, .int i_16, .ref a_19, .int i_17, .ref a_20])), (a_6, .inl (cy 1, 5, .inl (mm_g [i_18, i_19, i_20, i_21, i_22]))), (a_7, .inl (cy 1, 30, .inl (mm_g [i_23, i_24, i_25, i_26, i_27, i_28, i_29, i_30, i_31, i_32, i_33, i_34, i_35, i_36, i_37, i_38, i_39, i_40, i_41, i_42, i_43, i_44, i_45, i_46, i_47, i_48, i_49, i_50, i_51, i_52]))), (a_9, .inl (cy 1, 15, .inl f_0)), (a_10, .inl (cy 1, 1050, .inl f_1)), (a_13, .inl (cy 1, 450, .inl f_2)), (a_15, .inl (cy 1, 7200, .inl z160_6_4666)), (a_16, .inl (cy 1, 3, .inl g548)), (a_17, .inl (cy 1, 3, .inl g4672))] H) (hD : va_D A [(a_0, .inr (12, [.int i_1, .ref a_1, .ref a_2, .ref a_3, .ref a_4, .ref a_5, .int i_2, .int i_3, .int i_4, .int i_5, .int i_6, .long j_0, .int i_7, .int i_8, .int i_9, .int i_10, .ref a_6, .ref a_7, .ref a_8, .ref a_9, .ref a_10, .ref a_11, .ref a_12, .ref a_13, .ref a_14, .ref a_15, .ref a_16, .ref a_17, .ref a_18, .int i_11, .int i_12, .int i_13, .int i_14, .int i_15, .int i_16, .ref a_19, .int i_17, .ref a_20])), (a_6, .inl (cy 1, 5, .inl (mm_g [i_18, i_19, i_20, i_21, i_22]))), (a_7, .inl (cy 1, 30, .inl (mm_g [i_23, i_24, i_25, i_26, i_27, i_28, i_29, i_30, i_31, i_32, i_33, i_34, i_35, i_36, i_37, i_38, i_39, i_40, i_41, i_42, i_43, i_44, i_45, i_46, i_47, i_48, i_49, i_50, i_51, i_52]))), (a_9, .inl (cy 1, 15, .inl f_0)), (a_10, .inl (cy 1, 1050, .inl f_1)), (a_13, .inl (cy 1, 450, .inl f_2)), (a_15, .inl (cy 1, 7200, .inl z160_6_4666)), (a_16, .inl (cy 1, 3, .inl g548)), (a_17, .inl (cy 1, 3, .inl g4672))]) hS
                      have rg4672 : mm_ar g4672 0 210 := by rw [eg4672]; exact mm_ar_upd (mm_ar_wk h41 (by decide)) (mm_wk mm_k1 (by decide)) _
                      have L265_4694 : ∀ (n : Nat) (z265_8_4692 : Nat → Int32), mm_ar z265_8_4692 0 210 → mm_lf z265_8_4692 g548 i_0 → mm_xl f_5 z265_8_4692 i_0 → ((g548 (i_0 : Int32).toNatClampNeg).toInt - (z265_8_4692 (i_0 : Int32).toNatClampNeg).toInt).toNat < n → ∀ (H : Heap) (locs : List Loc), va_P G vwCl [(a_0, .inr (12, [.int i_1, .ref a_1, .ref a_2, .ref a_3, .ref a_4, .ref a_5, .int i_2, .int i_3, .int i_4, .int i_5, .int i_6, .long j_0, .int i_7, .int i_8, .int i_9, .int i_10, .ref a_6, .ref a_7, .ref a_8, .ref a_9, .ref a_10, .ref a_11, .ref a_12, .ref a_13, .ref a_14, .ref a_15, .ref a_16, .ref a_17, .ref a_18, .int i_11, .int i_12, .int i_13, .int i_14, .int i_15, .int i_16, .ref a_19, .int i_17, .ref a_20])), (a_6, .inl (cy 1, 5, .inl (mm_g [i_18, i_19, i_20, i_21, i_22]))), (a_7, .inl (cy 1, 30, .inl (mm_g [i_23, i_24, i_25, i_26, i_27, i_28, i_29, i_30, i_31, i_32, i_33, i_34, i_35, i_36, i_37, i_38, i_39, i_40, i_41, i_42, i_43, i_44, i_45, i_46, i_47, i_48, i_49, i_50, i_51, i_52]))), (a_9, .inl (cy 1, 15, .inl f_0)), (a_10, .inl (cy 1, 1050, .inl f_1)), (a_13, .inl (cy 1, 450, .inl f_2)), (a_15, .inl (cy 1, 7200, .inl z160_6_4666)), (a_16, .inl (cy 1, 3, .inl g548)), (a_17, .inl (cy 1, 3, .inl z265_8_4692))] H → va_D A [(a_0, .inr (12, [.int i_1, .ref a_1, .ref a_2, .ref a_3, .ref a_4, .ref a_5, .int i_2, .int i_3, .int i_4, .int i_5, .int i_6, .long j_0, .int i_7, .int i_8, .int i_9, .int i_10, .ref a_6, .ref a_7, .ref a_8, .ref a_9, .ref a_10, .ref a_11, .ref a_12, .ref a_13, .ref a_14, .ref a_15, .ref a_16, .ref a_17, .ref a_18, .int i_11, .int i_12, .int i_13, .int i_14, .int i_15, .int i_16, .ref a_19, .int i_17, .ref a_20])), (a_6, .inl (cy 1, 5, .inl (mm_g [i_18, i_19, i_20, i_21, i_22]))), (a_7, .inl (cy 1, 30, .inl (mm_g [i_23, i_24, i_25, i_26, i_27, i_28, i_29, i_30, i_31, i_32, i_33, i_34, i_35, i_36, i_37, i_38, i_39, i_40, i_41, i_42, i_43, i_44, i_45, i_46, i_47, i_48, i_49, i_50, i_51, i_52]))), (a_9, .inl (cy 1, 15, .inl f_0)), (a_10, .inl (cy 1, 1050, .inl f_1)), (a_13, .inl (cy 1, 450, .inl f_2)), (a_15, .inl (cy 1, 7200, .inl z160_6_4666)), (a_16, .inl (cy 1, 3, .inl g548)), (a_17, .inl (cy 1, 3, .inl z265_8_4692))] → va_S A s.heap H locs → ∀ (ls : Array Slot), lv_has ls 6 [(2, .int x160_2_4665), (0, .ref a_0), (1, .int i_0)] → W p l e R s m args below meth c H locs 0 0 Q (F0 m 265 ls []) := by
                        intro n
                        induction n with
                        | zero => intro z265_8_4692 rz265_8_4692 w4693 w4694 hm; exact absurd hm (Nat.not_lt_zero _)
                        | succ n ih265 =>
                          intro z265_8_4692 rz265_8_4692 w4693 w4694 hm265 H locs hP hD hS ls hl
                          refine lv_aload_n hx hb dX12_laysLand_265 rfl (lv_at hl 1 rfl) ?_
                          refine lv_iload_n hx hb dX12_laysLand_266 rfl (lv_at hl 2 rfl) ?_
                          refine lv_aload_n hx hb dX12_laysLand_267 rfl (lv_at hl 1 rfl) ?_
                          refine va_get (D := G) (ci := 12) (v := .ref a_17) (C := RX12) (T := TX12) (N := 38) hx hb hts (mm_i inlX12) hown hK.1 hP 0 rfl rfl 27 (by decide) (mm_h hts mm_w159) (fun _ h9 => h9) rfl dX12_laysLand_268 ?_
                          refine lv_iload_n hx hb dX12_laysLand_271 rfl (lv_at hl 2 rfl) ?_
                          refine va_iald hx hb hK.1 hP 8 1 rfl rfl (mm_in h0 (by decide)) dX12_laysLand_272 ?_
                          refine lv_topi (fun v4696 ev4696 => ?_)
                          have rv4696 : mm_rg v4696 0 210 := mm_eqv ev4696 (rz265_8_4692 _)
                          have q4697 : mm_rg v4696 1 210 := mm_lf_ld w4693 ev4696 rv4696
                          refine mm_finir (va_runV (As := [.int i_0, .int v4696]) (rest := []) ⟨hx, hb, hml, hown, hts⟩ (M123_X12_isRound l G cy H.size a_0 i_0 v4696 i_1 a_1 a_2 a_3 a_4 a_5 i_2 i_3 i_4 i_5 i_6 j_0 i_7 i_8 i_9 i_10 a_6 a_7 a_8 a_9 a_10 a_11 a_12 a_13 a_14 a_15 a_16 a_17 a_18 i_11 i_12 i_13 i_14 i_15 i_16 a_19 i_17 a_20 i_18 i_19 i_20 i_21 i_22 i_23 i_24 i_25 i_26 i_27 i_28 i_29 i_30 i_31 i_32 i_33 i_34 i_35 i_36 i_37 i_38 i_39 i_40 i_41 i_42 i_43 i_44 i_45 i_46 i_47 i_48 i_49 i_50 i_51 i_52 z160_6_4666 g548 h0 q4697 (mm_wk q2 (by decide)) h2 h3 h4 h5 h6 h7 h8 (mm_wk q1 (by decide)) h10 h11 h12 h13 h14 h15 h16 h17 h18 h19 h20 h21 h22 h23 h24 h25 h26 h27 h28 h29 h30 h31 h32 h33 h34 h35 rz160_6_4666 rg548 h44 h47 h50 h53 (mm_f1_u eg548 rv547 (by decide))) (cwV 2 hts (mm_gV mm_w709 mm_w710 mm_w711 mm_w5 mm_w712) rfl rfl rfl hd_X12_isRound ⟨by rw [hRf]; exact Nat.le_of_ble_eq_true rfl, by rw [hRl]; exact Nat.le_of_ble_eq_true rfl⟩) (mm_preV hK hZ hS hA hP hD [0, 1, 2, 6, 7] rfl rfl 0 rfl rfl rfl) rfl rfl hl.1 rfl (lv_room (Nat.le_of_ble_eq_true rfl)) dX12_laysLand_273 ⟨by rw [hRc]; exact Nat.le_of_ble_eq_true rfl, by rw [hRs]; exact Nat.le_of_ble_eq_true rfl⟩) hP hD hS hA [0, 1, 2, 6, 7] rfl (fun _ => rfl) ?_
                          clear hP hD hS
                          clear H locs
                          intro v4698 _u H locs hw hP hD hS
                          rcases hw with ⟨rfl, w4699⟩ | rfl
                          · have q4700 : mm_rg v4696 1 209 := mm_nr_d w4699 w4693 ev4696 rg548 q4697 (by decide)
                            refine lv_if_ne (tgt := 292) hx hb dX12_laysLand_276 (by decide) (fun c4701 => ?_) (fun c4701 => ?_)
                            · exact absurd rfl (mm_ne c4701)
                            · refine lv_aload_n hx hb dX12_laysLand_279 rfl (lv_at hl 1 rfl) ?_
                              refine va_get (D := G) (ci := 12) (v := .ref a_17) (C := RX12) (T := TX12) (N := 38) hx hb hts (mm_i inlX12) hown hK.1 hP 0 rfl rfl 27 (by decide) (mm_h hts mm_w159) (fun _ h9 => h9) rfl dX12_laysLand_280 ?_
                              refine lv_iload_n hx hb dX12_laysLand_283 rfl (lv_at hl 2 rfl) ?_
                              refine lv_dup2_11 hx hb dX12_laysLand_284 rfl rfl ?_
                              refine va_iald hx hb hK.1 hP 8 1 rfl rfl (mm_in h0 (by decide)) dX12_laysLand_285 ?_
                              refine lv_topi (fun v4702 ev4702 => ?_)
                              have rv4702 : mm_rg v4702 0 210 := mm_eqv ev4702 (rz265_8_4692 _)
                              have q4703 : mm_rg v4702 1 210 := mm_lf_ld w4693 ev4702 rv4702
                              obtain rfl : v4696 = v4702 := ev4696.trans ev4702.symm
                              refine lv_iconst (v := 1) hx hb dX12_laysLand_286 (by decide) ?_
                              refine lv_iadd hx hb dX12_laysLand_287 ?_
                              refine lv_topi (fun v4704 ev4704 => ?_)
                              have rv4704 : mm_rg v4704 2 210 := mm_add ev4704 q4700 mm_k1 (by decide) (by decide)
                              have tv4704 := mm_addEc ev4704 q4700 mm_k1 (by decide) (k := 1) (by decide)
                              refine va_iast hx hb hK.1 hP hD hS 8 1 rfl rfl (mm_in h0 (by decide)) dX12_laysLand_288 ?_
                              clear hP hD hS
                              clear H locs
                              obtain ⟨g4705, eg4705⟩ : ∃ z : Nat → Int32, z = upd z265_8_4692 i_0.toNatClampNeg v4704 := ⟨_, rfl⟩
                              rw [← eg4705]
                              intro H locs (hP : va_P G vwCl [(a_0, .inr (12, [.int i_1, .ref a_1, .ref a_2, .ref a_3, .ref a_4, .ref a_5, .int i_2, .int i_3, .int i_4, .int i_5, .int i_6, .long j_0, .int i_7, .int i_8, .int i_9, .int i_10, .ref a_6, .ref a_7, .ref a_8, .ref a_9, .ref a_10, .ref a_11, .ref a_12, .ref a_13, .ref a_14, .ref a_15, .ref a_16, .ref a_17, .ref a_18, .int i_11, .int i_12, .int i_13, .int i_14, .int i_15, .int i_16, .ref a_19, .int i_17, .ref a_20])), (a_6, .inl (cy 1, 5, .inl (mm_g [i_18, i_19, i_20, i_21, i_22]))), (a_7, .inl (cy 1, 30, .inl (mm_g [i_23, i_24, i_25, i_26, i_27, i_28, i_29, i_30, i_31, i_32, i_33, i_34, i_35, i_36, i_37, i_38, i_39, i_40, i_41, i_42, i_43, i_44, i_45, i_46, i_47, i_48, i_49, i_50, i_51, i_52]))), (a_9, .inl (cy 1, 15, .inl f_0)), (a_10, .inl (cy 1, 1050, .inl f_1)), (a_13, .inl (cy 1, 450, .inl f_2)), (a_15, .inl (cy 1, 7200, .inl z160_6_4666)), (a_16, .inl (cy 1, 3, .inl g548)), (a_17, .inl (cy 1, 3, .inl g4705))] H) (hD : va_D A [(a_0, .inr (12, [.int i_1, .ref a_1, .ref a_2, .ref a_3, .ref a_4, .ref a_5, .int i_2, .int i_3, .int i_4, .int i_5, .int i_6, .long j_0, .int i_7, .int i_8, .int i_9, .int i_10, .ref a_6, .ref a_7, .ref a_8, .ref a_9, .ref a_10, .ref a_11, .ref a_12, .ref a_13, .ref a_14, .ref a_15, .ref a_16, .ref a_17, .ref a_18, .int i_11, .int i_12, .int i_13, .int i_14, .int i_15, .int i_16, .ref a_19, .int i_17, .ref a_20])), (a_6, .inl (cy 1, 5, .inl (mm_g [i_18, i_19, i_20, i_21, i_22]))), (a_7, .inl (cy 1, 30, .inl (mm_g [i_23, i_24, i_25, i_26, i_27, i_28, i_29, i_30, i_31, i_32, i_33, i_34, i_35, i_36, i_37, i_38, i_39, i_40, i_41, i_42, i_43, i_44, i_45, i_46, i_47, i_48, i_49, i_50, i_51, i_52]))), (a_9, .inl (cy 1, 15, .inl f_0)), (a_10, .inl (cy 1, 1050, .inl f_1)), (a_13, .inl (cy 1, 450, .inl f_2)), (a_15, .inl (cy 1, 7200, .inl z160_6_4666)), (a_16, .inl (cy 1, 3, .inl g548)), (a_17, .inl (cy 1, 3, .inl g4705))]) hS
                              have rg4705 : mm_ar g4705 0 210 := by rw [eg4705]; exact mm_ar_upd (mm_ar_wk rz265_8_4692 (by decide)) (mm_wk rv4704 (by decide)) _
                              refine lv_goto (tgt := 265) hx hb dX12_laysLand_289 (by decide) ?_
                              exact ih265 g4705 rg4705 (mm_lf_s w4693 w4699 ev4696 eg4705 tv4704) (mm_xl_u w4694 eg4705) (mm_lfM hm265 w4693 w4699 ev4696 eg4705 tv4704) H locs hP hD hS ls (lv_sub hl [0, 1, 2] rfl)
                          · refine lv_if_ne (tgt := 292) hx hb dX12_laysLand_276 (by decide) (fun c4706 => ?_) (fun c4706 => ?_)
                            · have w4707 : mm_ll f_3 f_4 f_5 z160_6_4666 g548 z265_8_4692 i_0 i_25 := (mm_ll_of (mm_xl_u (mm_xl_r _ _) eg548) w4694 w4693 w4667 eg548 (mm_le c4671) tv4669 rv547 rx160_2_4665 trivial)
                              clear ih265 ih160 ih31 ih2
                              subst hAe
                              rw [hQ]
                              exact W.vret hx hb hr (fun t ht hW => ⟨⟨(z160_6_4666, g548, z265_8_4692), rfl, ⟨rz160_6_4666, rg548, rz265_8_4692, w4707⟩, by rw [ht]; exact hP, hK.warm hW, hD⟩, hS.F ht⟩) hS.2.2 dX12_laysLand_292
                            · exact mm_eqN c4706.symm mm_k0 mm_k1 (by decide)
                      exact L265_4694 _ g4672 rg4672 (mm_lf_0 eg4672 (mm_f1_u eg548 rv547 (by decide))) (mm_xl_u (mm_xl_r _ _) eg4672) (Nat.lt_succ_self _) H locs hP hD hS ls (lv_sub hl [0, 1, 2] rfl)
                    · have q4708 := mm_ltL (h := 209) (mm_nle c4671) rv4669 rv547 (by decide)
                      have q4709 := mm_ltR (lo := 2) (mm_nle c4671) rv4669 rv547 (by decide)
                      have q4710 : mm_rg x160_2_4665 0 208 := mm_unadd tv4669 q4708 rx160_2_4665 (by decide) (by decide)
                      refine lv_bipush (v := 10) hx hb dX12_laysLand_172 (by decide) ?_
                      refine lv_bipush (v := 7) hx hb dX12_laysLand_174 (by decide) ?_
                      refine lv_iload_n hx hb dX12_laysLand_176 rfl (lv_at hl 2 rfl) ?_
                      refine lv_imul hx hb dX12_laysLand_177 ?_
                      refine lv_topi (fun v4711 ev4711 => ?_)
                      have rv4711 : mm_rg v4711 0 14 := mm_mul ev4711 mm_k7 h0 (by decide) (by decide)
                      have tv4711 := mm_mulEc ev4711 mm_k7 h0 (by decide) (k := 7) (by decide)
                      refine lv_iload_n hx hb dX12_laysLand_178 rfl (lv_at hl 0 rfl) ?_
                      refine lv_aload_n hx hb dX12_laysLand_179 rfl (lv_at hl 1 rfl) ?_
                      refine va_get (D := G) (ci := 12) (v := .ref a_9) (C := RX12) (T := TX12) (N := 38) hx hb hts (mm_i inlX12) hown hK.1 hP 0 rfl rfl 19 (by decide) (mm_h hts mm_w151) (fun _ h9 => h9) rfl dX12_laysLand_180 ?_
                      refine lv_iload_n hx hb dX12_laysLand_183 rfl (lv_at hl 2 rfl) ?_
                      refine va_iald hx hb hK.1 hP 3 1 rfl rfl (mm_in h0 (by decide)) dX12_laysLand_184 ?_
                      refine lv_topi (fun v4712 ev4712 => ?_)
                      have rv4712 : mm_rg v4712 0 7 := mm_eqv ev4712 (h36 _)
                      obtain rfl : v541 = v4712 := ev541.trans ev4712.symm
                      refine lv_irem hx hb dX12_laysLand_185 (mm_nz q543 (by decide)) ?_
                      refine lv_topi (fun v4713 ev4713 => ?_)
                      have rv4713 : mm_rg v4713 0 6 := mm_rem ev4713 q4710 q543 (by decide) (by decide)
                      refine lv_iadd hx hb dX12_laysLand_186 ?_
                      refine lv_topi (fun v4714 ev4714 => ?_)
                      have rv4714 : mm_rg v4714 0 20 := mm_add ev4714 rv4711 rv4713 (by decide) (by decide)
                      have tv4714 := mm_addE ev4714 rv4711 rv4713 (by decide)
                      refine lv_imul hx hb dX12_laysLand_187 ?_
                      refine lv_topi (fun v4715 ev4715 => ?_)
                      have rv4715 : mm_rg v4715 0 200 := mm_mul ev4715 mm_k10 rv4714 (by decide) (by decide)
                      have tv4715 := mm_mulEc ev4715 mm_k10 rv4714 (by decide) (k := 10) (by decide)
                      refine lv_istore_n (lv' := [(3, .int v4715), (2, .int x160_2_4665), (0, .ref a_0), (1, .int i_0)]) hx hb dX12_laysLand_188 rfl hl (by decide) rfl ?_
                      clear hl
                      clear ls
                      intro ls hl
                      refine lv_iconst (v := 0) hx hb dX12_laysLand_189 (by decide) ?_
                      refine lv_istore (lv' := [(4, .int 0), (3, .int v4715), (2, .int x160_2_4665), (0, .ref a_0), (1, .int i_0)]) hx hb dX12_laysLand_190 hl (by decide) rfl ?_
                      clear hl
                      clear ls
                      intro ls hl
                      have L192_4976 : ∀ (n : Nat) (x192_4_4974 : Int32) (z192_6_4975 : Nat → Int32), mm_rg x192_4_4974 0 10 → mm_ar z192_6_4975 0 9 → mm_te f_3 z192_6_4975 f_1 i_0 x160_2_4665 v4715 x192_4_4974 i_25 → (10 - x192_4_4974.toInt).toNat < n → ∀ (H : Heap) (locs : List Loc), va_P G vwCl [(a_0, .inr (12, [.int i_1, .ref a_1, .ref a_2, .ref a_3, .ref a_4, .ref a_5, .int i_2, .int i_3, .int i_4, .int i_5, .int i_6, .long j_0, .int i_7, .int i_8, .int i_9, .int i_10, .ref a_6, .ref a_7, .ref a_8, .ref a_9, .ref a_10, .ref a_11, .ref a_12, .ref a_13, .ref a_14, .ref a_15, .ref a_16, .ref a_17, .ref a_18, .int i_11, .int i_12, .int i_13, .int i_14, .int i_15, .int i_16, .ref a_19, .int i_17, .ref a_20])), (a_6, .inl (cy 1, 5, .inl (mm_g [i_18, i_19, i_20, i_21, i_22]))), (a_7, .inl (cy 1, 30, .inl (mm_g [i_23, i_24, i_25, i_26, i_27, i_28, i_29, i_30, i_31, i_32, i_33, i_34, i_35, i_36, i_37, i_38, i_39, i_40, i_41, i_42, i_43, i_44, i_45, i_46, i_47, i_48, i_49, i_50, i_51, i_52]))), (a_9, .inl (cy 1, 15, .inl f_0)), (a_10, .inl (cy 1, 1050, .inl f_1)), (a_13, .inl (cy 1, 450, .inl f_2)), (a_15, .inl (cy 1, 7200, .inl z192_6_4975)), (a_16, .inl (cy 1, 3, .inl g548)), (a_17, .inl (cy 1, 3, .inl f_5))] H → va_D A [(a_0, .inr (12, [.int i_1, .ref a_1, .ref a_2, .ref a_3, .ref a_4, .ref a_5, .int i_2, .int i_3, .int i_4, .int i_5, .int i_6, .long j_0, .int i_7, .int i_8, .int i_9, .int i_10, .ref a_6, .ref a_7, .ref a_8, .ref a_9, .ref a_10, .ref a_11, .ref a_12, .ref a_13, .ref a_14, .ref a_15, .ref a_16, .ref a_17, .ref a_18, .int i_11, .int i_12, .int i_13, .int i_14, .int i_15, .int i_16, .ref a_19, .int i_17, .ref a_20])), (a_6, .inl (cy 1, 5, .inl (mm_g [i_18, i_19, i_20, i_21, i_22]))), (a_7, .inl (cy 1, 30, .inl (mm_g [i_23, i_24, i_25, i_26, i_27, i_28, i_29, i_30, i_31, i_32, i_33, i_34, i_35, i_36, i_37, i_38, i_39, i_40, i_41, i_42, i_43, i_44, i_45, i_46, i_47, i_48, i_49, i_50, i_51, i_52]))), (a_9, .inl (cy 1, 15, .inl f_0)), (a_10, .inl (cy 1, 1050, .inl f_1)), (a_13, .inl (cy 1, 450, .inl f_2)), (a_15, .inl (cy 1, 7200, .inl z192_6_4975)), (a_16, .inl (cy 1, 3, .inl g548)), (a_17, .inl (cy 1, 3, .inl f_5))] → va_S A s.heap H locs → ∀ (ls : Array Slot), lv_has ls 6 [(4, .int x192_4_4974), (3, .int v4715), (2, .int x160_2_4665), (0, .ref a_0), (1, .int i_0)] → W p l e R s m args below meth c H locs 0 0 Q (F0 m 192 ls []) := by
                        intro n
                        induction n with
                        | zero => intro x192_4_4974 z192_6_4975 rx192_4_4974 rz192_6_4975 w4976 hm; exact absurd hm (Nat.not_lt_zero _)
                        | succ n ih192 =>
                          intro x192_4_4974 z192_6_4975 rx192_4_4974 rz192_6_4975 w4976 hm192 H locs hP hD hS ls hl
                          refine lv_iload hx hb dX12_laysLand_192 (lv_at hl 0 rfl) ?_
                          refine lv_aload_n hx hb dX12_laysLand_194 rfl (lv_at hl 3 rfl) ?_
                          refine mm_finir (va_runV (As := []) (rest := [.int x192_4_4974]) ⟨hx, hb, hml, hown, hts⟩ (M100_X12_words l G cy H.size a_0 i_1 a_1 a_2 a_3 a_4 a_5 i_2 i_3 i_4 i_5 i_6 j_0 i_7 i_8 i_9 i_10 a_6 a_7 a_8 a_9 a_10 a_11 a_12 a_13 a_14 a_15 a_16 a_17 a_18 i_11 i_12 i_13 i_14 i_15 i_16 a_19 i_17 a_20 i_18 i_19 i_20 i_21 i_22 i_23 i_24 i_25 i_26 i_27 i_28 i_29 i_30 i_31 i_32 i_33 i_34 i_35 i_36 i_37 i_38 i_39 i_40 i_41 i_42 i_43 i_44 i_45 i_46 i_47 i_48 i_49 i_50 i_51 i_52 q2 h2 h3 h4 h5 h6 h7 h8 (mm_wk q1 (by decide)) h10 h11 h12 h13 h14 h15 h16 h17 h18 h19 h20 h21 h22 h23 h24 h25 h26 h27 h28 h29 h30 h31 h32 h33 h34 h35 h44 h47 h50 h53) (cwV 0 hts (mm_gV mm_w649 mm_w650 mm_w651 mm_w5 mm_w652) rfl rfl rfl hd_X12_words ⟨by rw [hRf]; exact Nat.le_of_ble_eq_true rfl, by rw [hRl]; exact Nat.le_of_ble_eq_true rfl⟩) (mm_preV hK hZ hS hA hP hD [0, 1, 2] rfl rfl 0 rfl rfl rfl) rfl rfl hl.1 rfl (lv_room (Nat.le_of_ble_eq_true rfl)) dX12_laysLand_195 ⟨by rw [hRc]; exact Nat.le_of_ble_eq_true rfl, by rw [hRs]; exact Nat.le_of_ble_eq_true rfl⟩) hP hD hS hA [0, 1, 2] rfl (fun _ => rfl) ?_
                          clear hP hD hS
                          clear H locs
                          intro v4978 _u H locs hw hP hD hS
                          obtain ⟨w4979, w4980⟩ := hw
                          have t4981 : (v4978 : Int32).toInt = (i_25 : Int32).toInt + 1 := w4980
                          refine lv_icmp_ge (tgt := 252) hx hb dX12_laysLand_198 (by decide) (fun c4982 => ?_) (fun c4982 => ?_)
                          · have q4983 := mm_leR (mm_le c4982) w4979 rx192_4_4974
                            obtain ⟨v4984, ev4984⟩ : ∃ y : Int32, y = x160_2_4665 + 1 := ⟨_, rfl⟩
                            refine lv_iinc (v := v4984) (lv' := [(2, .int v4984), (4, .int x192_4_4974), (3, .int v4715), (0, .ref a_0), (1, .int i_0)]) hx hb dX12_laysLand_252 hl (k := 2) rfl (by rw [ev4984]; rfl) (by decide) rfl ?_
                            clear hl
                            clear ls
                            intro ls hl
                            have rv4984 : mm_rg v4984 1 209 := mm_add ev4984 q4710 mm_k1 (by decide) (by decide)
                            have tv4984 := mm_addEc ev4984 q4710 mm_k1 (by decide) (k := 1) (by decide)
                            refine lv_goto (tgt := 160) hx hb dX12_laysLand_255 (by decide) ?_
                            exact ih160 v4984 z192_6_4975 (mm_wk rv4984 (by decide)) rz192_6_4975 (mm_td_s w4976 tv4984 t4981 (mm_le c4982) h42 h54 ev541 ev4713 (by have := tv4715; have := tv4714; have := tv4711; omega) h0 q4710 q543 h8 (by decide)) (mm_mu hm160 tv4984 (by decide) (rv4984).2 (by decide)) H locs hP hD hS ls (lv_sub hl [0, 3, 4] rfl)
                          · have q4985 := mm_ltL (h := 9) (mm_nle c4982) rx192_4_4974 w4979 (by decide)
                            refine lv_aload_n hx hb dX12_laysLand_201 rfl (lv_at hl 3 rfl) ?_
                            refine va_get (D := G) (ci := 12) (v := .ref a_15) (C := RX12) (T := TX12) (N := 38) hx hb hts (mm_i inlX12) hown hK.1 hP 0 rfl rfl 25 (by decide) (mm_h hts mm_w157) (fun _ h9 => h9) rfl dX12_laysLand_202 ?_
                            refine lv_sipush (v := 2400) hx hb dX12_laysLand_205 (by decide) ?_
                            refine lv_iload_n hx hb dX12_laysLand_208 rfl (lv_at hl 4 rfl) ?_
                            refine lv_imul hx hb dX12_laysLand_209 ?_
                            refine lv_topi (fun v4986 ev4986 => ?_)
                            have rv4986 : mm_rg v4986 0 4800 := mm_mul ev4986 mm_k2400 h0 (by decide) (by decide)
                            have tv4986 := mm_mulEc ev4986 mm_k2400 h0 (by decide) (k := 2400) (by decide)
                            refine lv_bipush (v := 10) hx hb dX12_laysLand_210 (by decide) ?_
                            refine lv_iload_n hx hb dX12_laysLand_212 rfl (lv_at hl 2 rfl) ?_
                            refine lv_iconst (v := 1) hx hb dX12_laysLand_213 (by decide) ?_
                            refine lv_iadd hx hb dX12_laysLand_214 ?_
                            refine lv_topi (fun v4987 ev4987 => ?_)
                            have rv4987 : mm_rg v4987 1 209 := mm_add ev4987 q4710 mm_k1 (by decide) (by decide)
                            have tv4987 := mm_addEc ev4987 q4710 mm_k1 (by decide) (k := 1) (by decide)
                            refine lv_imul hx hb dX12_laysLand_215 ?_
                            refine lv_topi (fun v4988 ev4988 => ?_)
                            have rv4988 : mm_rg v4988 10 2090 := mm_mul ev4988 mm_k10 rv4987 (by decide) (by decide)
                            have tv4988 := mm_mulEc ev4988 mm_k10 rv4987 (by decide) (k := 10) (by decide)
                            refine lv_iadd hx hb dX12_laysLand_216 ?_
                            refine lv_topi (fun v4989 ev4989 => ?_)
                            have rv4989 : mm_rg v4989 10 6890 := mm_add ev4989 rv4986 rv4988 (by decide) (by decide)
                            have tv4989 := mm_addE ev4989 rv4986 rv4988 (by decide)
                            refine lv_iload hx hb dX12_laysLand_217 (lv_at hl 0 rfl) ?_
                            refine lv_iadd hx hb dX12_laysLand_219 ?_
                            refine lv_topi (fun v4990 ev4990 => ?_)
                            have rv4990 : mm_rg v4990 10 6899 := mm_add ev4990 rv4989 q4985 (by decide) (by decide)
                            have tv4990 := mm_addE ev4990 rv4989 q4985 (by decide)
                            refine lv_aload_n hx hb dX12_laysLand_220 rfl (lv_at hl 3 rfl) ?_
                            refine va_get (D := G) (ci := 12) (v := .ref a_15) (C := RX12) (T := TX12) (N := 38) hx hb hts (mm_i inlX12) hown hK.1 hP 0 rfl rfl 25 (by decide) (mm_h hts mm_w157) (fun _ h9 => h9) rfl dX12_laysLand_221 ?_
                            refine lv_sipush (v := 2400) hx hb dX12_laysLand_224 (by decide) ?_
                            refine lv_iload_n hx hb dX12_laysLand_227 rfl (lv_at hl 4 rfl) ?_
                            refine lv_imul hx hb dX12_laysLand_228 ?_
                            refine lv_topi (fun v4991 ev4991 => ?_)
                            have rv4991 : mm_rg v4991 0 4800 := mm_mul ev4991 mm_k2400 h0 (by decide) (by decide)
                            have tv4991 := mm_mulEc ev4991 mm_k2400 h0 (by decide) (k := 2400) (by decide)
                            refine lv_bipush (v := 10) hx hb dX12_laysLand_229 (by decide) ?_
                            refine lv_iload_n hx hb dX12_laysLand_231 rfl (lv_at hl 2 rfl) ?_
                            refine lv_imul hx hb dX12_laysLand_232 ?_
                            refine lv_topi (fun v4992 ev4992 => ?_)
                            have rv4992 : mm_rg v4992 0 2080 := mm_mul ev4992 mm_k10 q4710 (by decide) (by decide)
                            have tv4992 := mm_mulEc ev4992 mm_k10 q4710 (by decide) (k := 10) (by decide)
                            refine lv_iadd hx hb dX12_laysLand_233 ?_
                            refine lv_topi (fun v4993 ev4993 => ?_)
                            have rv4993 : mm_rg v4993 0 6880 := mm_add ev4993 rv4991 rv4992 (by decide) (by decide)
                            have tv4993 := mm_addE ev4993 rv4991 rv4992 (by decide)
                            refine lv_aload_n hx hb dX12_laysLand_234 rfl (lv_at hl 3 rfl) ?_
                            refine va_get (D := G) (ci := 12) (v := .ref a_10) (C := RX12) (T := TX12) (N := 38) hx hb hts (mm_i inlX12) hown hK.1 hP 0 rfl rfl 20 (by decide) (mm_h hts mm_w152) (fun _ h9 => h9) rfl dX12_laysLand_235 ?_
                            refine lv_iload_n hx hb dX12_laysLand_238 rfl (lv_at hl 1 rfl) ?_
                            refine lv_iload hx hb dX12_laysLand_239 (lv_at hl 0 rfl) ?_
                            refine lv_iadd hx hb dX12_laysLand_241 ?_
                            refine lv_topi (fun v4994 ev4994 => ?_)
                            have rv4994 : mm_rg v4994 0 209 := mm_add ev4994 rv4715 q4985 (by decide) (by decide)
                            have tv4994 := mm_addE ev4994 rv4715 q4985 (by decide)
                            refine va_iald hx hb hK.1 hP 4 1 rfl rfl (mm_in rv4994 (by decide)) dX12_laysLand_242 ?_
                            refine lv_topi (fun v4995 ev4995 => ?_)
                            have rv4995 : mm_rg v4995 0 9 := mm_eqv ev4995 (h37 _)
                            refine lv_iadd hx hb dX12_laysLand_243 ?_
                            refine lv_topi (fun v4996 ev4996 => ?_)
                            have rv4996 : mm_rg v4996 0 6889 := mm_add ev4996 rv4993 rv4995 (by decide) (by decide)
                            have tv4996 := mm_addE ev4996 rv4993 rv4995 (by decide)
                            refine va_iald hx hb hK.1 hP 6 1 rfl rfl (mm_in rv4996 (by decide)) dX12_laysLand_244 ?_
                            refine lv_topi (fun v4997 ev4997 => ?_)
                            have rv4997 : mm_rg v4997 0 9 := mm_eqv ev4997 (rz192_6_4975 _)
                            refine va_iast hx hb hK.1 hP hD hS 6 1 rfl rfl (mm_in rv4990 (by decide)) dX12_laysLand_245 ?_
                            clear hP hD hS
                            clear H locs
                            obtain ⟨g4998, eg4998⟩ : ∃ z : Nat → Int32, z = upd z192_6_4975 v4990.toNatClampNeg v4997 := ⟨_, rfl⟩
                            rw [← eg4998]
                            intro H locs (hP : va_P G vwCl [(a_0, .inr (12, [.int i_1, .ref a_1, .ref a_2, .ref a_3, .ref a_4, .ref a_5, .int i_2, .int i_3, .int i_4, .int i_5, .int i_6, .long j_0, .int i_7, .int i_8, .int i_9, .int i_10, .ref a_6, .ref a_7, .ref a_8, .ref a_9, .ref a_10, .ref a_11, .ref a_12, .ref a_13, .ref a_14, .ref a_15, .ref a_16, .ref a_17, .ref a_18, .int i_11, .int i_12, .int i_13, .int i_14, .int i_15, .int i_16, .ref a_19, .int i_17, .ref a_20])), (a_6, .inl (cy 1, 5, .inl (mm_g [i_18, i_19, i_20, i_21, i_22]))), (a_7, .inl (cy 1, 30, .inl (mm_g [i_23, i_24, i_25, i_26, i_27, i_28, i_29, i_30, i_31, i_32, i_33, i_34, i_35, i_36, i_37, i_38, i_39, i_40, i_41, i_42, i_43, i_44, i_45, i_46, i_47, i_48, i_49, i_50, i_51, i_52]))), (a_9, .inl (cy 1, 15, .inl f_0)), (a_10, .inl (cy 1, 1050, .inl f_1)), (a_13, .inl (cy 1, 450, .inl f_2)), (a_15, .inl (cy 1, 7200, .inl g4998)), (a_16, .inl (cy 1, 3, .inl g548)), (a_17, .inl (cy 1, 3, .inl f_5))] H) (hD : va_D A [(a_0, .inr (12, [.int i_1, .ref a_1, .ref a_2, .ref a_3, .ref a_4, .ref a_5, .int i_2, .int i_3, .int i_4, .int i_5, .int i_6, .long j_0, .int i_7, .int i_8, .int i_9, .int i_10, .ref a_6, .ref a_7, .ref a_8, .ref a_9, .ref a_10, .ref a_11, .ref a_12, .ref a_13, .ref a_14, .ref a_15, .ref a_16, .ref a_17, .ref a_18, .int i_11, .int i_12, .int i_13, .int i_14, .int i_15, .int i_16, .ref a_19, .int i_17, .ref a_20])), (a_6, .inl (cy 1, 5, .inl (mm_g [i_18, i_19, i_20, i_21, i_22]))), (a_7, .inl (cy 1, 30, .inl (mm_g [i_23, i_24, i_25, i_26, i_27, i_28, i_29, i_30, i_31, i_32, i_33, i_34, i_35, i_36, i_37, i_38, i_39, i_40, i_41, i_42, i_43, i_44, i_45, i_46, i_47, i_48, i_49, i_50, i_51, i_52]))), (a_9, .inl (cy 1, 15, .inl f_0)), (a_10, .inl (cy 1, 1050, .inl f_1)), (a_13, .inl (cy 1, 450, .inl f_2)), (a_15, .inl (cy 1, 7200, .inl g4998)), (a_16, .inl (cy 1, 3, .inl g548)), (a_17, .inl (cy 1, 3, .inl f_5))]) hS
                            have rg4998 : mm_ar g4998 0 9 := by rw [eg4998]; exact mm_ar_upd (mm_ar_wk rz192_6_4975 (by decide)) (mm_wk rv4997 (by decide)) _
                            obtain ⟨v4999, ev4999⟩ : ∃ y : Int32, y = x192_4_4974 + 1 := ⟨_, rfl⟩
                            refine lv_iinc (v := v4999) (lv' := [(4, .int v4999), (3, .int v4715), (2, .int x160_2_4665), (0, .ref a_0), (1, .int i_0)]) hx hb dX12_laysLand_246 hl (k := 0) rfl (by rw [ev4999]; rfl) (by decide) rfl ?_
                            clear hl
                            clear ls
                            intro ls hl
                            have rv4999 : mm_rg v4999 1 10 := mm_add ev4999 q4985 mm_k1 (by decide) (by decide)
                            have tv4999 := mm_addEc ev4999 q4985 mm_k1 (by decide) (k := 1) (by decide)
                            refine lv_goto (tgt := 192) hx hb dX12_laysLand_249 (by decide) ?_
                            exact ih192 v4999 g4998 (mm_wk rv4999 (by decide)) rg4998 (mm_te_s w4976 tv4999 eg4998 ev4997 ev4995 (by have := tv4990; have := tv4989; have := tv4988; have := tv4987; have := tv4986; omega) (by have := tv4996; have := tv4993; have := tv4992; have := tv4991; omega) tv4994 h0 q4710 q4985 rv4995 rv4715 h8 (by decide) (fun i => h37 i)) (mm_mu hm192 tv4999 (by decide) (rv4999).2 (by decide)) H locs hP hD hS ls (lv_sub hl [0, 1, 2, 3, 4] rfl)
                      exact L192_4976 _ 0 z160_6_4666 (mm_wk mm_k0 (by decide)) rz160_6_4666 (mm_te_0 w4667) (Nat.lt_succ_self _) H locs hP hD hS ls (lv_sub hl [0, 1, 2, 3, 4] rfl)
                exact L160_4667 _ 0 z31_6_537 (mm_wk mm_k0 (by decide)) rz31_6_537 (mm_td_0 w538) (Nat.lt_succ_self _) H locs hP hD hS ls (lv_sub hl [0, 1, 2] rfl)
              · have q5000 := mm_eqI (lo := 0) (hi := 0) c542 rv541 mm_k0 (by decide)
                refine lv_iconst (v := 1) hx hb dX12_laysLand_141 (by decide) ?_
                refine lv_goto (tgt := 157) hx hb dX12_laysLand_142 (by decide) ?_
                refine va_iast hx hb hK.1 hP hD hS 7 1 rfl rfl (mm_in h0 (by decide)) dX12_laysLand_157 ?_
                clear hP hD hS
                clear H locs
                obtain ⟨g5001, eg5001⟩ : ∃ z : Nat → Int32, z = upd f_4 i_0.toNatClampNeg 1 := ⟨_, rfl⟩
                rw [← eg5001]
                intro H locs (hP : va_P G vwCl [(a_0, .inr (12, [.int i_1, .ref a_1, .ref a_2, .ref a_3, .ref a_4, .ref a_5, .int i_2, .int i_3, .int i_4, .int i_5, .int i_6, .long j_0, .int i_7, .int i_8, .int i_9, .int i_10, .ref a_6, .ref a_7, .ref a_8, .ref a_9, .ref a_10, .ref a_11, .ref a_12, .ref a_13, .ref a_14, .ref a_15, .ref a_16, .ref a_17, .ref a_18, .int i_11, .int i_12, .int i_13, .int i_14, .int i_15, .int i_16, .ref a_19, .int i_17, .ref a_20])), (a_6, .inl (cy 1, 5, .inl (mm_g [i_18, i_19, i_20, i_21, i_22]))), (a_7, .inl (cy 1, 30, .inl (mm_g [i_23, i_24, i_25, i_26, i_27, i_28, i_29, i_30, i_31, i_32, i_33, i_34, i_35, i_36, i_37, i_38, i_39, i_40, i_41, i_42, i_43, i_44, i_45, i_46, i_47, i_48, i_49, i_50, i_51, i_52]))), (a_9, .inl (cy 1, 15, .inl f_0)), (a_10, .inl (cy 1, 1050, .inl f_1)), (a_13, .inl (cy 1, 450, .inl f_2)), (a_15, .inl (cy 1, 7200, .inl z31_6_537)), (a_16, .inl (cy 1, 3, .inl g5001)), (a_17, .inl (cy 1, 3, .inl f_5))] H) (hD : va_D A [(a_0, .inr (12, [.int i_1, .ref a_1, .ref a_2, .ref a_3, .ref a_4, .ref a_5, .int i_2, .int i_3, .int i_4, .int i_5, .int i_6, .long j_0, .int i_7, .int i_8, .int i_9, .int i_10, .ref a_6, .ref a_7, .ref a_8, .ref a_9, .ref a_10, .ref a_11, .ref a_12, .ref a_13, .ref a_14, .ref a_15, .ref a_16, .ref a_17, .ref a_18, .int i_11, .int i_12, .int i_13, .int i_14, .int i_15, .int i_16, .ref a_19, .int i_17, .ref a_20])), (a_6, .inl (cy 1, 5, .inl (mm_g [i_18, i_19, i_20, i_21, i_22]))), (a_7, .inl (cy 1, 30, .inl (mm_g [i_23, i_24, i_25, i_26, i_27, i_28, i_29, i_30, i_31, i_32, i_33, i_34, i_35, i_36, i_37, i_38, i_39, i_40, i_41, i_42, i_43, i_44, i_45, i_46, i_47, i_48, i_49, i_50, i_51, i_52]))), (a_9, .inl (cy 1, 15, .inl f_0)), (a_10, .inl (cy 1, 1050, .inl f_1)), (a_13, .inl (cy 1, 450, .inl f_2)), (a_15, .inl (cy 1, 7200, .inl z31_6_537)), (a_16, .inl (cy 1, 3, .inl g5001)), (a_17, .inl (cy 1, 3, .inl f_5))]) hS
                have rg5001 : mm_ar g5001 0 210 := by rw [eg5001]; exact mm_ar_upd (mm_ar_wk h40 (by decide)) (mm_wk mm_k1 (by decide)) _
                refine lv_iconst (v := 0) hx hb dX12_laysLand_158 (by decide) ?_
                refine lv_istore_n (lv' := [(2, .int 0), (0, .ref a_0), (1, .int i_0)]) hx hb dX12_laysLand_159 rfl hl (by decide) rfl ?_
                clear hl
                clear ls
                intro ls hl
                refine lv_iload_n hx hb dX12_laysLand_160 rfl (lv_at hl 0 rfl) ?_
                refine lv_iconst (v := 1) hx hb dX12_laysLand_161 (by decide) ?_
                refine lv_iadd hx hb dX12_laysLand_162 ?_
                refine lv_topi (fun v5006 ev5006 => ?_)
                obtain rfl : v5006 = 1 := ev5006.trans (by decide)
                refine lv_aload_n hx hb dX12_laysLand_163 rfl (lv_at hl 1 rfl) ?_
                refine va_get (D := G) (ci := 12) (v := .ref a_16) (C := RX12) (T := TX12) (N := 38) hx hb hts (mm_i inlX12) hown hK.1 hP 0 rfl rfl 26 (by decide) (mm_h hts mm_w158) (fun _ h9 => h9) rfl dX12_laysLand_164 ?_
                refine lv_iload_n hx hb dX12_laysLand_167 rfl (lv_at hl 2 rfl) ?_
                refine va_iald hx hb hK.1 hP 7 1 rfl rfl (mm_in h0 (by decide)) dX12_laysLand_168 ?_
                refine lv_topi (fun v5007 ev5007 => ?_)
                obtain rfl : v5007 = 1 := ev5007.trans (by rw [eg5001]; exact pk_us)
                refine lv_icmp_ge (tgt := 258) hx hb dX12_laysLand_169 (by decide) (fun c5008 => ?_) (fun c5008 => ?_)
                · refine lv_aload_n hx hb dX12_laysLand_258 rfl (lv_at hl 1 rfl) ?_
                  refine va_get (D := G) (ci := 12) (v := .ref a_17) (C := RX12) (T := TX12) (N := 38) hx hb hts (mm_i inlX12) hown hK.1 hP 0 rfl rfl 27 (by decide) (mm_h hts mm_w159) (fun _ h9 => h9) rfl dX12_laysLand_259 ?_
                  refine lv_iload_n hx hb dX12_laysLand_262 rfl (lv_at hl 2 rfl) ?_
                  refine lv_iconst (v := 1) hx hb dX12_laysLand_263 (by decide) ?_
                  refine va_iast hx hb hK.1 hP hD hS 8 1 rfl rfl (mm_in h0 (by decide)) dX12_laysLand_264 ?_
                  clear hP hD hS
                  clear H locs
                  obtain ⟨g5009, eg5009⟩ : ∃ z : Nat → Int32, z = upd f_5 i_0.toNatClampNeg 1 := ⟨_, rfl⟩
                  rw [← eg5009]
                  intro H locs (hP : va_P G vwCl [(a_0, .inr (12, [.int i_1, .ref a_1, .ref a_2, .ref a_3, .ref a_4, .ref a_5, .int i_2, .int i_3, .int i_4, .int i_5, .int i_6, .long j_0, .int i_7, .int i_8, .int i_9, .int i_10, .ref a_6, .ref a_7, .ref a_8, .ref a_9, .ref a_10, .ref a_11, .ref a_12, .ref a_13, .ref a_14, .ref a_15, .ref a_16, .ref a_17, .ref a_18, .int i_11, .int i_12, .int i_13, .int i_14, .int i_15, .int i_16, .ref a_19, .int i_17, .ref a_20])), (a_6, .inl (cy 1, 5, .inl (mm_g [i_18, i_19, i_20, i_21, i_22]))), (a_7, .inl (cy 1, 30, .inl (mm_g [i_23, i_24, i_25, i_26, i_27, i_28, i_29, i_30, i_31, i_32, i_33, i_34, i_35, i_36, i_37, i_38, i_39, i_40, i_41, i_42, i_43, i_44, i_45, i_46, i_47, i_48, i_49, i_50, i_51, i_52]))), (a_9, .inl (cy 1, 15, .inl f_0)), (a_10, .inl (cy 1, 1050, .inl f_1)), (a_13, .inl (cy 1, 450, .inl f_2)), (a_15, .inl (cy 1, 7200, .inl z31_6_537)), (a_16, .inl (cy 1, 3, .inl g5001)), (a_17, .inl (cy 1, 3, .inl g5009))] H) (hD : va_D A [(a_0, .inr (12, [.int i_1, .ref a_1, .ref a_2, .ref a_3, .ref a_4, .ref a_5, .int i_2, .int i_3, .int i_4, .int i_5, .int i_6, .long j_0, .int i_7, .int i_8, .int i_9, .int i_10, .ref a_6, .ref a_7, .ref a_8, .ref a_9, .ref a_10, .ref a_11, .ref a_12, .ref a_13, .ref a_14, .ref a_15, .ref a_16, .ref a_17, .ref a_18, .int i_11, .int i_12, .int i_13, .int i_14, .int i_15, .int i_16, .ref a_19, .int i_17, .ref a_20])), (a_6, .inl (cy 1, 5, .inl (mm_g [i_18, i_19, i_20, i_21, i_22]))), (a_7, .inl (cy 1, 30, .inl (mm_g [i_23, i_24, i_25, i_26, i_27, i_28, i_29, i_30, i_31, i_32, i_33, i_34, i_35, i_36, i_37, i_38, i_39, i_40, i_41, i_42, i_43, i_44, i_45, i_46, i_47, i_48, i_49, i_50, i_51, i_52]))), (a_9, .inl (cy 1, 15, .inl f_0)), (a_10, .inl (cy 1, 1050, .inl f_1)), (a_13, .inl (cy 1, 450, .inl f_2)), (a_15, .inl (cy 1, 7200, .inl z31_6_537)), (a_16, .inl (cy 1, 3, .inl g5001)), (a_17, .inl (cy 1, 3, .inl g5009))]) hS
                  have rg5009 : mm_ar g5009 0 210 := by rw [eg5009]; exact mm_ar_upd (mm_ar_wk h41 (by decide)) (mm_wk mm_k1 (by decide)) _
                  have L265_5031 : ∀ (n : Nat) (z265_8_5029 : Nat → Int32), mm_ar z265_8_5029 0 210 → mm_lf z265_8_5029 g5001 i_0 → mm_xl f_5 z265_8_5029 i_0 → ((g5001 (i_0 : Int32).toNatClampNeg).toInt - (z265_8_5029 (i_0 : Int32).toNatClampNeg).toInt).toNat < n → ∀ (H : Heap) (locs : List Loc), va_P G vwCl [(a_0, .inr (12, [.int i_1, .ref a_1, .ref a_2, .ref a_3, .ref a_4, .ref a_5, .int i_2, .int i_3, .int i_4, .int i_5, .int i_6, .long j_0, .int i_7, .int i_8, .int i_9, .int i_10, .ref a_6, .ref a_7, .ref a_8, .ref a_9, .ref a_10, .ref a_11, .ref a_12, .ref a_13, .ref a_14, .ref a_15, .ref a_16, .ref a_17, .ref a_18, .int i_11, .int i_12, .int i_13, .int i_14, .int i_15, .int i_16, .ref a_19, .int i_17, .ref a_20])), (a_6, .inl (cy 1, 5, .inl (mm_g [i_18, i_19, i_20, i_21, i_22]))), (a_7, .inl (cy 1, 30, .inl (mm_g [i_23, i_24, i_25, i_26, i_27, i_28, i_29, i_30, i_31, i_32, i_33, i_34, i_35, i_36, i_37, i_38, i_39, i_40, i_41, i_42, i_43, i_44, i_45, i_46, i_47, i_48, i_49, i_50, i_51, i_52]))), (a_9, .inl (cy 1, 15, .inl f_0)), (a_10, .inl (cy 1, 1050, .inl f_1)), (a_13, .inl (cy 1, 450, .inl f_2)), (a_15, .inl (cy 1, 7200, .inl z31_6_537)), (a_16, .inl (cy 1, 3, .inl g5001)), (a_17, .inl (cy 1, 3, .inl z265_8_5029))] H → va_D A [(a_0, .inr (12, [.int i_1, .ref a_1, .ref a_2, .ref a_3, .ref a_4, .ref a_5, .int i_2, .int i_3, .int i_4, .int i_5, .int i_6, .long j_0, .int i_7, .int i_8, .int i_9, .int i_10, .ref a_6, .ref a_7, .ref a_8, .ref a_9, .ref a_10, .ref a_11, .ref a_12, .ref a_13, .ref a_14, .ref a_15, .ref a_16, .ref a_17, .ref a_18, .int i_11, .int i_12, .int i_13, .int i_14, .int i_15, .int i_16, .ref a_19, .int i_17, .ref a_20])), (a_6, .inl (cy 1, 5, .inl (mm_g [i_18, i_19, i_20, i_21, i_22]))), (a_7, .inl (cy 1, 30, .inl (mm_g [i_23, i_24, i_25, i_26, i_27, i_28, i_29, i_30, i_31, i_32, i_33, i_34, i_35, i_36, i_37, i_38, i_39, i_40, i_41, i_42, i_43, i_44, i_45, i_46, i_47, i_48, i_49, i_50, i_51, i_52]))), (a_9, .inl (cy 1, 15, .inl f_0)), (a_10, .inl (cy 1, 1050, .inl f_1)), (a_13, .inl (cy 1, 450, .inl f_2)), (a_15, .inl (cy 1, 7200, .inl z31_6_537)), (a_16, .inl (cy 1, 3, .inl g5001)), (a_17, .inl (cy 1, 3, .inl z265_8_5029))] → va_S A s.heap H locs → ∀ (ls : Array Slot), lv_has ls 6 [(2, .int 0), (0, .ref a_0), (1, .int i_0)] → W p l e R s m args below meth c H locs 0 0 Q (F0 m 265 ls []) := by
                    intro n
                    induction n with
                    | zero => intro z265_8_5029 rz265_8_5029 w5030 w5031 hm; exact absurd hm (Nat.not_lt_zero _)
                    | succ n ih265 =>
                      intro z265_8_5029 rz265_8_5029 w5030 w5031 hm265 H locs hP hD hS ls hl
                      refine lv_aload_n hx hb dX12_laysLand_265 rfl (lv_at hl 1 rfl) ?_
                      refine lv_iload_n hx hb dX12_laysLand_266 rfl (lv_at hl 2 rfl) ?_
                      refine lv_aload_n hx hb dX12_laysLand_267 rfl (lv_at hl 1 rfl) ?_
                      refine va_get (D := G) (ci := 12) (v := .ref a_17) (C := RX12) (T := TX12) (N := 38) hx hb hts (mm_i inlX12) hown hK.1 hP 0 rfl rfl 27 (by decide) (mm_h hts mm_w159) (fun _ h9 => h9) rfl dX12_laysLand_268 ?_
                      refine lv_iload_n hx hb dX12_laysLand_271 rfl (lv_at hl 2 rfl) ?_
                      refine va_iald hx hb hK.1 hP 8 1 rfl rfl (mm_in h0 (by decide)) dX12_laysLand_272 ?_
                      refine lv_topi (fun v5033 ev5033 => ?_)
                      have rv5033 : mm_rg v5033 0 210 := mm_eqv ev5033 (rz265_8_5029 _)
                      have q5034 : mm_rg v5033 1 210 := mm_lf_ld w5030 ev5033 rv5033
                      refine mm_finir (va_runV (As := [.int i_0, .int v5033]) (rest := []) ⟨hx, hb, hml, hown, hts⟩ (M123_X12_isRound l G cy H.size a_0 i_0 v5033 i_1 a_1 a_2 a_3 a_4 a_5 i_2 i_3 i_4 i_5 i_6 j_0 i_7 i_8 i_9 i_10 a_6 a_7 a_8 a_9 a_10 a_11 a_12 a_13 a_14 a_15 a_16 a_17 a_18 i_11 i_12 i_13 i_14 i_15 i_16 a_19 i_17 a_20 i_18 i_19 i_20 i_21 i_22 i_23 i_24 i_25 i_26 i_27 i_28 i_29 i_30 i_31 i_32 i_33 i_34 i_35 i_36 i_37 i_38 i_39 i_40 i_41 i_42 i_43 i_44 i_45 i_46 i_47 i_48 i_49 i_50 i_51 i_52 z31_6_537 g5001 h0 q5034 (mm_wk q2 (by decide)) h2 h3 h4 h5 h6 h7 h8 (mm_wk q1 (by decide)) h10 h11 h12 h13 h14 h15 h16 h17 h18 h19 h20 h21 h22 h23 h24 h25 h26 h27 h28 h29 h30 h31 h32 h33 h34 h35 rz31_6_537 rg5001 h44 h47 h50 h53 (mm_f1_u eg5001 mm_k1 (by decide))) (cwV 2 hts (mm_gV mm_w709 mm_w710 mm_w711 mm_w5 mm_w712) rfl rfl rfl hd_X12_isRound ⟨by rw [hRf]; exact Nat.le_of_ble_eq_true rfl, by rw [hRl]; exact Nat.le_of_ble_eq_true rfl⟩) (mm_preV hK hZ hS hA hP hD [0, 1, 2, 6, 7] rfl rfl 0 rfl rfl rfl) rfl rfl hl.1 rfl (lv_room (Nat.le_of_ble_eq_true rfl)) dX12_laysLand_273 ⟨by rw [hRc]; exact Nat.le_of_ble_eq_true rfl, by rw [hRs]; exact Nat.le_of_ble_eq_true rfl⟩) hP hD hS hA [0, 1, 2, 6, 7] rfl (fun _ => rfl) ?_
                      clear hP hD hS
                      clear H locs
                      intro v5035 _u H locs hw hP hD hS
                      rcases hw with ⟨rfl, w5036⟩ | rfl
                      · have q5037 : mm_rg v5033 1 209 := mm_nr_d w5036 w5030 ev5033 rg5001 q5034 (by decide)
                        refine lv_if_ne (tgt := 292) hx hb dX12_laysLand_276 (by decide) (fun c5038 => ?_) (fun c5038 => ?_)
                        · exact absurd rfl (mm_ne c5038)
                        · refine lv_aload_n hx hb dX12_laysLand_279 rfl (lv_at hl 1 rfl) ?_
                          refine va_get (D := G) (ci := 12) (v := .ref a_17) (C := RX12) (T := TX12) (N := 38) hx hb hts (mm_i inlX12) hown hK.1 hP 0 rfl rfl 27 (by decide) (mm_h hts mm_w159) (fun _ h9 => h9) rfl dX12_laysLand_280 ?_
                          refine lv_iload_n hx hb dX12_laysLand_283 rfl (lv_at hl 2 rfl) ?_
                          refine lv_dup2_11 hx hb dX12_laysLand_284 rfl rfl ?_
                          refine va_iald hx hb hK.1 hP 8 1 rfl rfl (mm_in h0 (by decide)) dX12_laysLand_285 ?_
                          refine lv_topi (fun v5039 ev5039 => ?_)
                          have rv5039 : mm_rg v5039 0 210 := mm_eqv ev5039 (rz265_8_5029 _)
                          have q5040 : mm_rg v5039 1 210 := mm_lf_ld w5030 ev5039 rv5039
                          obtain rfl : v5033 = v5039 := ev5033.trans ev5039.symm
                          refine lv_iconst (v := 1) hx hb dX12_laysLand_286 (by decide) ?_
                          refine lv_iadd hx hb dX12_laysLand_287 ?_
                          refine lv_topi (fun v5041 ev5041 => ?_)
                          have rv5041 : mm_rg v5041 2 210 := mm_add ev5041 q5037 mm_k1 (by decide) (by decide)
                          have tv5041 := mm_addEc ev5041 q5037 mm_k1 (by decide) (k := 1) (by decide)
                          refine va_iast hx hb hK.1 hP hD hS 8 1 rfl rfl (mm_in h0 (by decide)) dX12_laysLand_288 ?_
                          clear hP hD hS
                          clear H locs
                          obtain ⟨g5042, eg5042⟩ : ∃ z : Nat → Int32, z = upd z265_8_5029 i_0.toNatClampNeg v5041 := ⟨_, rfl⟩
                          rw [← eg5042]
                          intro H locs (hP : va_P G vwCl [(a_0, .inr (12, [.int i_1, .ref a_1, .ref a_2, .ref a_3, .ref a_4, .ref a_5, .int i_2, .int i_3, .int i_4, .int i_5, .int i_6, .long j_0, .int i_7, .int i_8, .int i_9, .int i_10, .ref a_6, .ref a_7, .ref a_8, .ref a_9, .ref a_10, .ref a_11, .ref a_12, .ref a_13, .ref a_14, .ref a_15, .ref a_16, .ref a_17, .ref a_18, .int i_11, .int i_12, .int i_13, .int i_14, .int i_15, .int i_16, .ref a_19, .int i_17, .ref a_20])), (a_6, .inl (cy 1, 5, .inl (mm_g [i_18, i_19, i_20, i_21, i_22]))), (a_7, .inl (cy 1, 30, .inl (mm_g [i_23, i_24, i_25, i_26, i_27, i_28, i_29, i_30, i_31, i_32, i_33, i_34, i_35, i_36, i_37, i_38, i_39, i_40, i_41, i_42, i_43, i_44, i_45, i_46, i_47, i_48, i_49, i_50, i_51, i_52]))), (a_9, .inl (cy 1, 15, .inl f_0)), (a_10, .inl (cy 1, 1050, .inl f_1)), (a_13, .inl (cy 1, 450, .inl f_2)), (a_15, .inl (cy 1, 7200, .inl z31_6_537)), (a_16, .inl (cy 1, 3, .inl g5001)), (a_17, .inl (cy 1, 3, .inl g5042))] H) (hD : va_D A [(a_0, .inr (12, [.int i_1, .ref a_1, .ref a_2, .ref a_3, .ref a_4, .ref a_5, .int i_2, .int i_3, .int i_4, .int i_5, .int i_6, .long j_0, .int i_7, .int i_8, .int i_9, .int i_10, .ref a_6, .ref a_7, .ref a_8, .ref a_9, .ref a_10, .ref a_11, .ref a_12, .ref a_13, .ref a_14, .ref a_15, .ref a_16, .ref a_17, .ref a_18, .int i_11, .int i_12, .int i_13, .int i_14, .int i_15, .int i_16, .ref a_19, .int i_17, .ref a_20])), (a_6, .inl (cy 1, 5, .inl (mm_g [i_18, i_19, i_20, i_21, i_22]))), (a_7, .inl (cy 1, 30, .inl (mm_g [i_23, i_24, i_25, i_26, i_27, i_28, i_29, i_30, i_31, i_32, i_33, i_34, i_35, i_36, i_37, i_38, i_39, i_40, i_41, i_42, i_43, i_44, i_45, i_46, i_47, i_48, i_49, i_50, i_51, i_52]))), (a_9, .inl (cy 1, 15, .inl f_0)), (a_10, .inl (cy 1, 1050, .inl f_1)), (a_13, .inl (cy 1, 450, .inl f_2)), (a_15, .inl (cy 1, 7200, .inl z31_6_537)), (a_16, .inl (cy 1, 3, .inl g5001)), (a_17, .inl (cy 1, 3, .inl g5042))]) hS
                          have rg5042 : mm_ar g5042 0 210 := by rw [eg5042]; exact mm_ar_upd (mm_ar_wk rz265_8_5029 (by decide)) (mm_wk rv5041 (by decide)) _
                          refine lv_goto (tgt := 265) hx hb dX12_laysLand_289 (by decide) ?_
                          exact ih265 g5042 rg5042 (mm_lf_s w5030 w5036 ev5033 eg5042 tv5041) (mm_xl_u w5031 eg5042) (mm_lfM hm265 w5030 w5036 ev5033 eg5042 tv5041) H locs hP hD hS ls (lv_sub hl [0, 1, 2] rfl)
                      · refine lv_if_ne (tgt := 292) hx hb dX12_laysLand_276 (by decide) (fun c5043 => ?_) (fun c5043 => ?_)
                        · have w5044 : mm_ll f_3 f_4 f_5 z31_6_537 g5001 z265_8_5029 i_0 i_25 := (mm_ll_one (mm_xl_u (mm_xl_r _ _) eg5001) w5031 w5030 (mm_td_0 w538) eg5001)
                          clear ih265 ih31 ih2
                          subst hAe
                          rw [hQ]
                          exact W.vret hx hb hr (fun t ht hW => ⟨⟨(z31_6_537, g5001, z265_8_5029), rfl, ⟨rz31_6_537, rg5001, rz265_8_5029, w5044⟩, by rw [ht]; exact hP, hK.warm hW, hD⟩, hS.F ht⟩) hS.2.2 dX12_laysLand_292
                        · exact mm_eqN c5043.symm mm_k0 mm_k1 (by decide)
                  exact L265_5031 _ g5009 rg5009 (mm_lf_0 eg5009 (mm_f1_u eg5001 mm_k1 (by decide))) (mm_xl_u (mm_xl_r _ _) eg5009) (Nat.lt_succ_self _) H locs hP hD hS ls (lv_sub hl [0, 1, 2] rfl)
                · have q5045 := mm_ltL (h := 0) (mm_nle c5008) mm_k1 mm_k1 (by decide)
                  exact mm_no q5045 (by decide)
            · have q5046 := mm_ltL (h := 29) (mm_nle c540) rx31_2_536 h11 (by decide)
              have q5047 := mm_ltR (lo := 1) (mm_nle c540) rx31_2_536 h11 (by decide)
              refine lv_aload_n hx hb dX12_laysLand_41 rfl (lv_at hl 1 rfl) ?_
              refine va_get (D := G) (ci := 12) (v := .ref a_13) (C := RX12) (T := TX12) (N := 38) hx hb hts (mm_i inlX12) hown hK.1 hP 0 rfl rfl 23 (by decide) (mm_h hts mm_w155) (fun _ h9 => h9) rfl dX12_laysLand_42 ?_
              refine lv_iconst (v := 3) hx hb dX12_laysLand_45 (by decide) ?_
              refine lv_iload_n hx hb dX12_laysLand_46 rfl (lv_at hl 0 rfl) ?_
              refine lv_imul hx hb dX12_laysLand_47 ?_
              refine lv_topi (fun v5048 ev5048 => ?_)
              have rv5048 : mm_rg v5048 0 87 := mm_mul ev5048 mm_k3 q5046 (by decide) (by decide)
              have tv5048 := mm_mulEc ev5048 mm_k3 q5046 (by decide) (k := 3) (by decide)
              refine va_iald hx hb hK.1 hP 5 1 rfl rfl (mm_in rv5048 (by decide)) dX12_laysLand_48 ?_
              refine lv_topi (fun v5049 ev5049 => ?_)
              have rv5049 : mm_rg v5049 (-1) 99 := mm_eqv ev5049 (h38 _)
              refine lv_iload_n hx hb dX12_laysLand_49 rfl (lv_at hl 2 rfl) ?_
              refine lv_icmp_eq (tgt := 56) hx hb dX12_laysLand_50 (by decide) (fun c5050 => ?_) (fun c5050 => ?_)
              · have q5051 := mm_eqI (lo := 0) (hi := 2) c5050 rv5049 h0 (by decide)
                refine lv_sipush (v := 2400) hx hb dX12_laysLand_56 (by decide) ?_
                refine lv_iload_n hx hb dX12_laysLand_59 rfl (lv_at hl 2 rfl) ?_
                refine lv_imul hx hb dX12_laysLand_60 ?_
                refine lv_topi (fun v5052 ev5052 => ?_)
                have rv5052 : mm_rg v5052 0 4800 := mm_mul ev5052 mm_k2400 h0 (by decide) (by decide)
                have tv5052 := mm_mulEc ev5052 mm_k2400 h0 (by decide) (k := 2400) (by decide)
                refine lv_aload_n hx hb dX12_laysLand_61 rfl (lv_at hl 1 rfl) ?_
                refine va_get (D := G) (ci := 12) (v := .ref a_13) (C := RX12) (T := TX12) (N := 38) hx hb hts (mm_i inlX12) hown hK.1 hP 0 rfl rfl 23 (by decide) (mm_h hts mm_w155) (fun _ h9 => h9) rfl dX12_laysLand_62 ?_
                refine lv_iconst (v := 3) hx hb dX12_laysLand_65 (by decide) ?_
                refine lv_iload_n hx hb dX12_laysLand_66 rfl (lv_at hl 0 rfl) ?_
                refine lv_imul hx hb dX12_laysLand_67 ?_
                refine lv_topi (fun v5053 ev5053 => ?_)
                have rv5053 : mm_rg v5053 0 87 := mm_mul ev5053 mm_k3 q5046 (by decide) (by decide)
                have tv5053 := mm_mulEc ev5053 mm_k3 q5046 (by decide) (k := 3) (by decide)
                refine lv_iconst (v := 1) hx hb dX12_laysLand_68 (by decide) ?_
                refine lv_iadd hx hb dX12_laysLand_69 ?_
                refine lv_topi (fun v5054 ev5054 => ?_)
                have rv5054 : mm_rg v5054 1 88 := mm_add ev5054 rv5053 mm_k1 (by decide) (by decide)
                have tv5054 := mm_addEc ev5054 rv5053 mm_k1 (by decide) (k := 1) (by decide)
                refine va_iald hx hb hK.1 hP 5 1 rfl rfl (mm_in rv5054 (by decide)) dX12_laysLand_70 ?_
                refine lv_topi (fun v5055 ev5055 => ?_)
                have rv5055 : mm_rg v5055 (-1) 99 := mm_eqv ev5055 (h38 _)
                have w5056 := mm_acs_w1 h43 (mm_nle c540) ev5049 (by have := tv5048; omega) q5051 ev5055 (by have := tv5054; have := tv5053; omega) q5046 (by decide)
                have q5057 : mm_rg v5055 0 9 := mm_of2 w5056 h8
                refine lv_iadd hx hb dX12_laysLand_71 ?_
                refine lv_topi (fun v5058 ev5058 => ?_)
                have rv5058 : mm_rg v5058 0 4809 := mm_add ev5058 rv5052 q5057 (by decide) (by decide)
                have tv5058 := mm_addE ev5058 rv5052 q5057 (by decide)
                refine lv_istore_n (lv' := [(3, .int v5058), (2, .int x31_2_536), (0, .ref a_0), (1, .int i_0)]) hx hb dX12_laysLand_72 rfl hl (by decide) rfl ?_
                clear hl
                clear ls
                intro ls hl
                refine lv_sipush (v := 2400) hx hb dX12_laysLand_73 (by decide) ?_
                refine lv_iload_n hx hb dX12_laysLand_76 rfl (lv_at hl 3 rfl) ?_
                refine lv_imul hx hb dX12_laysLand_77 ?_
                refine lv_topi (fun v5059 ev5059 => ?_)
                have rv5059 : mm_rg v5059 0 4800 := mm_mul ev5059 mm_k2400 h0 (by decide) (by decide)
                have tv5059 := mm_mulEc ev5059 mm_k2400 h0 (by decide) (k := 2400) (by decide)
                refine lv_aload_n hx hb dX12_laysLand_78 rfl (lv_at hl 2 rfl) ?_
                refine va_get (D := G) (ci := 12) (v := .ref a_13) (C := RX12) (T := TX12) (N := 38) hx hb hts (mm_i inlX12) hown hK.1 hP 0 rfl rfl 23 (by decide) (mm_h hts mm_w155) (fun _ h9 => h9) rfl dX12_laysLand_79 ?_
                refine lv_iconst (v := 3) hx hb dX12_laysLand_82 (by decide) ?_
                refine lv_iload_n hx hb dX12_laysLand_83 rfl (lv_at hl 1 rfl) ?_
                refine lv_imul hx hb dX12_laysLand_84 ?_
                refine lv_topi (fun v5060 ev5060 => ?_)
                have rv5060 : mm_rg v5060 0 87 := mm_mul ev5060 mm_k3 q5046 (by decide) (by decide)
                have tv5060 := mm_mulEc ev5060 mm_k3 q5046 (by decide) (k := 3) (by decide)
                refine lv_iconst (v := 2) hx hb dX12_laysLand_85 (by decide) ?_
                refine lv_iadd hx hb dX12_laysLand_86 ?_
                refine lv_topi (fun v5061 ev5061 => ?_)
                have rv5061 : mm_rg v5061 2 89 := mm_add ev5061 rv5060 mm_k2 (by decide) (by decide)
                have tv5061 := mm_addEc ev5061 rv5060 mm_k2 (by decide) (k := 2) (by decide)
                refine va_iald hx hb hK.1 hP 5 1 rfl rfl (mm_in rv5061 (by decide)) dX12_laysLand_87 ?_
                refine lv_topi (fun v5062 ev5062 => ?_)
                have rv5062 : mm_rg v5062 (-1) 99 := mm_eqv ev5062 (h38 _)
                have q5063 : mm_rg v5062 0 99 := mm_acs_2 h43 (mm_nle c540) ev5062 (by have := tv5061; have := tv5060; omega) q5046 rv5062 (by decide)
                have w5064 := mm_acs_w2 h43 (mm_nle c540) ev5049 (by have := tv5048; omega) q5051 ev5062 (by have := tv5061; have := tv5060; omega) q5046 (by decide)
                have q5065 : mm_rg v5062 0 9 := mm_of2 w5064 h8
                refine lv_iadd hx hb dX12_laysLand_88 ?_
                refine lv_topi (fun v5066 ev5066 => ?_)
                have rv5066 : mm_rg v5066 0 4809 := mm_add ev5066 rv5059 q5065 (by decide) (by decide)
                have tv5066 := mm_addE ev5066 rv5059 q5065 (by decide)
                refine lv_istore (lv' := [(4, .int v5066), (3, .int v5058), (2, .int x31_2_536), (0, .ref a_0), (1, .int i_0)]) hx hb dX12_laysLand_89 hl (by decide) rfl ?_
                clear hl
                clear ls
                intro ls hl
                refine lv_aload_n hx hb dX12_laysLand_91 rfl (lv_at hl 3 rfl) ?_
                refine va_get (D := G) (ci := 12) (v := .ref a_15) (C := RX12) (T := TX12) (N := 38) hx hb hts (mm_i inlX12) hown hK.1 hP 0 rfl rfl 25 (by decide) (mm_h hts mm_w157) (fun _ h9 => h9) rfl dX12_laysLand_92 ?_
                refine lv_iload_n hx hb dX12_laysLand_95 rfl (lv_at hl 1 rfl) ?_
                refine va_iald hx hb hK.1 hP 6 1 rfl rfl (mm_in rv5058 (by decide)) dX12_laysLand_96 ?_
                refine lv_topi (fun v5067 ev5067 => ?_)
                have rv5067 : mm_rg v5067 0 9 := mm_eqv ev5067 (rz31_6_537 _)
                refine lv_istore (lv' := [(5, .int v5067), (4, .int v5066), (3, .int v5058), (2, .int x31_2_536), (0, .ref a_0), (1, .int i_0)]) hx hb dX12_laysLand_97 hl (by decide) rfl ?_
                clear hl
                clear ls
                intro ls hl
                refine lv_aload_n hx hb dX12_laysLand_99 rfl (lv_at hl 4 rfl) ?_
                refine va_get (D := G) (ci := 12) (v := .ref a_15) (C := RX12) (T := TX12) (N := 38) hx hb hts (mm_i inlX12) hown hK.1 hP 0 rfl rfl 25 (by decide) (mm_h hts mm_w157) (fun _ h9 => h9) rfl dX12_laysLand_100 ?_
                refine lv_iload_n hx hb dX12_laysLand_103 rfl (lv_at hl 2 rfl) ?_
                refine lv_aload_n hx hb dX12_laysLand_104 rfl (lv_at hl 4 rfl) ?_
                refine va_get (D := G) (ci := 12) (v := .ref a_15) (C := RX12) (T := TX12) (N := 38) hx hb hts (mm_i inlX12) hown hK.1 hP 0 rfl rfl 25 (by decide) (mm_h hts mm_w157) (fun _ h9 => h9) rfl dX12_laysLand_105 ?_
                refine lv_iload hx hb dX12_laysLand_108 (lv_at hl 1 rfl) ?_
                refine va_iald hx hb hK.1 hP 6 1 rfl rfl (mm_in rv5066 (by decide)) dX12_laysLand_110 ?_
                refine lv_topi (fun v5068 ev5068 => ?_)
                have rv5068 : mm_rg v5068 0 9 := mm_eqv ev5068 (rz31_6_537 _)
                refine va_iast hx hb hK.1 hP hD hS 6 1 rfl rfl (mm_in rv5058 (by decide)) dX12_laysLand_111 ?_
                clear hP hD hS
                clear H locs
                obtain ⟨g5069, eg5069⟩ : ∃ z : Nat → Int32, z = upd z31_6_537 v5058.toNatClampNeg v5068 := ⟨_, rfl⟩
                rw [← eg5069]
                intro H locs (hP : va_P G vwCl [(a_0, .inr (12, [.int i_1, .ref a_1, .ref a_2, .ref a_3, .ref a_4, .ref a_5, .int i_2, .int i_3, .int i_4, .int i_5, .int i_6, .long j_0, .int i_7, .int i_8, .int i_9, .int i_10, .ref a_6, .ref a_7, .ref a_8, .ref a_9, .ref a_10, .ref a_11, .ref a_12, .ref a_13, .ref a_14, .ref a_15, .ref a_16, .ref a_17, .ref a_18, .int i_11, .int i_12, .int i_13, .int i_14, .int i_15, .int i_16, .ref a_19, .int i_17, .ref a_20])), (a_6, .inl (cy 1, 5, .inl (mm_g [i_18, i_19, i_20, i_21, i_22]))), (a_7, .inl (cy 1, 30, .inl (mm_g [i_23, i_24, i_25, i_26, i_27, i_28, i_29, i_30, i_31, i_32, i_33, i_34, i_35, i_36, i_37, i_38, i_39, i_40, i_41, i_42, i_43, i_44, i_45, i_46, i_47, i_48, i_49, i_50, i_51, i_52]))), (a_9, .inl (cy 1, 15, .inl f_0)), (a_10, .inl (cy 1, 1050, .inl f_1)), (a_13, .inl (cy 1, 450, .inl f_2)), (a_15, .inl (cy 1, 7200, .inl g5069)), (a_16, .inl (cy 1, 3, .inl f_4)), (a_17, .inl (cy 1, 3, .inl f_5))] H) (hD : va_D A [(a_0, .inr (12, [.int i_1, .ref a_1, .ref a_2, .ref a_3, .ref a_4, .ref a_5, .int i_2, .int i_3, .int i_4, .int i_5, .int i_6, .long j_0, .int i_7, .int i_8, .int i_9, .int i_10, .ref a_6, .ref a_7, .ref a_8, .ref a_9, .ref a_10, .ref a_11, .ref a_12, .ref a_13, .ref a_14, .ref a_15, .ref a_16, .ref a_17, .ref a_18, .int i_11, .int i_12, .int i_13, .int i_14, .int i_15, .int i_16, .ref a_19, .int i_17, .ref a_20])), (a_6, .inl (cy 1, 5, .inl (mm_g [i_18, i_19, i_20, i_21, i_22]))), (a_7, .inl (cy 1, 30, .inl (mm_g [i_23, i_24, i_25, i_26, i_27, i_28, i_29, i_30, i_31, i_32, i_33, i_34, i_35, i_36, i_37, i_38, i_39, i_40, i_41, i_42, i_43, i_44, i_45, i_46, i_47, i_48, i_49, i_50, i_51, i_52]))), (a_9, .inl (cy 1, 15, .inl f_0)), (a_10, .inl (cy 1, 1050, .inl f_1)), (a_13, .inl (cy 1, 450, .inl f_2)), (a_15, .inl (cy 1, 7200, .inl g5069)), (a_16, .inl (cy 1, 3, .inl f_4)), (a_17, .inl (cy 1, 3, .inl f_5))]) hS
                have rg5069 : mm_ar g5069 0 9 := by rw [eg5069]; exact mm_ar_upd (mm_ar_wk rz31_6_537 (by decide)) (mm_wk rv5068 (by decide)) _
                refine lv_aload_n hx hb dX12_laysLand_112 rfl (lv_at hl 4 rfl) ?_
                refine va_get (D := G) (ci := 12) (v := .ref a_15) (C := RX12) (T := TX12) (N := 38) hx hb hts (mm_i inlX12) hown hK.1 hP 0 rfl rfl 25 (by decide) (mm_h hts mm_w157) (fun _ h9 => h9) rfl dX12_laysLand_113 ?_
                refine lv_iload hx hb dX12_laysLand_116 (lv_at hl 1 rfl) ?_
                refine lv_iload hx hb dX12_laysLand_118 (lv_at hl 0 rfl) ?_
                refine va_iast hx hb hK.1 hP hD hS 6 1 rfl rfl (mm_in rv5066 (by decide)) dX12_laysLand_120 ?_
                clear hP hD hS
                clear H locs
                obtain ⟨g5070, eg5070⟩ : ∃ z : Nat → Int32, z = upd g5069 v5066.toNatClampNeg v5067 := ⟨_, rfl⟩
                rw [← eg5070]
                intro H locs (hP : va_P G vwCl [(a_0, .inr (12, [.int i_1, .ref a_1, .ref a_2, .ref a_3, .ref a_4, .ref a_5, .int i_2, .int i_3, .int i_4, .int i_5, .int i_6, .long j_0, .int i_7, .int i_8, .int i_9, .int i_10, .ref a_6, .ref a_7, .ref a_8, .ref a_9, .ref a_10, .ref a_11, .ref a_12, .ref a_13, .ref a_14, .ref a_15, .ref a_16, .ref a_17, .ref a_18, .int i_11, .int i_12, .int i_13, .int i_14, .int i_15, .int i_16, .ref a_19, .int i_17, .ref a_20])), (a_6, .inl (cy 1, 5, .inl (mm_g [i_18, i_19, i_20, i_21, i_22]))), (a_7, .inl (cy 1, 30, .inl (mm_g [i_23, i_24, i_25, i_26, i_27, i_28, i_29, i_30, i_31, i_32, i_33, i_34, i_35, i_36, i_37, i_38, i_39, i_40, i_41, i_42, i_43, i_44, i_45, i_46, i_47, i_48, i_49, i_50, i_51, i_52]))), (a_9, .inl (cy 1, 15, .inl f_0)), (a_10, .inl (cy 1, 1050, .inl f_1)), (a_13, .inl (cy 1, 450, .inl f_2)), (a_15, .inl (cy 1, 7200, .inl g5070)), (a_16, .inl (cy 1, 3, .inl f_4)), (a_17, .inl (cy 1, 3, .inl f_5))] H) (hD : va_D A [(a_0, .inr (12, [.int i_1, .ref a_1, .ref a_2, .ref a_3, .ref a_4, .ref a_5, .int i_2, .int i_3, .int i_4, .int i_5, .int i_6, .long j_0, .int i_7, .int i_8, .int i_9, .int i_10, .ref a_6, .ref a_7, .ref a_8, .ref a_9, .ref a_10, .ref a_11, .ref a_12, .ref a_13, .ref a_14, .ref a_15, .ref a_16, .ref a_17, .ref a_18, .int i_11, .int i_12, .int i_13, .int i_14, .int i_15, .int i_16, .ref a_19, .int i_17, .ref a_20])), (a_6, .inl (cy 1, 5, .inl (mm_g [i_18, i_19, i_20, i_21, i_22]))), (a_7, .inl (cy 1, 30, .inl (mm_g [i_23, i_24, i_25, i_26, i_27, i_28, i_29, i_30, i_31, i_32, i_33, i_34, i_35, i_36, i_37, i_38, i_39, i_40, i_41, i_42, i_43, i_44, i_45, i_46, i_47, i_48, i_49, i_50, i_51, i_52]))), (a_9, .inl (cy 1, 15, .inl f_0)), (a_10, .inl (cy 1, 1050, .inl f_1)), (a_13, .inl (cy 1, 450, .inl f_2)), (a_15, .inl (cy 1, 7200, .inl g5070)), (a_16, .inl (cy 1, 3, .inl f_4)), (a_17, .inl (cy 1, 3, .inl f_5))]) hS
                have rg5070 : mm_ar g5070 0 9 := by rw [eg5070]; exact mm_ar_upd (mm_ar_wk rg5069 (by decide)) (mm_wk rv5067 (by decide)) _
                obtain ⟨v5071, ev5071⟩ : ∃ y : Int32, y = x31_2_536 + 1 := ⟨_, rfl⟩
                refine lv_iinc (v := v5071) (lv' := [(2, .int v5071), (5, .int v5067), (4, .int v5066), (3, .int v5058), (0, .ref a_0), (1, .int i_0)]) hx hb dX12_laysLand_121 hl (k := 3) rfl (by rw [ev5071]; rfl) (by decide) rfl ?_
                clear hl
                clear ls
                intro ls hl
                have rv5071 : mm_rg v5071 1 30 := mm_add ev5071 q5046 mm_k1 (by decide) (by decide)
                have tv5071 := mm_addEc ev5071 q5046 mm_k1 (by decide) (k := 1) (by decide)
                refine lv_goto (tgt := 31) hx hb dX12_laysLand_124 (by decide) ?_
                exact ih31 v5071 g5070 (mm_wk rv5071 (by decide)) rg5070 (mm_tp_s w538 eg5069 eg5070 ev5067 ev5068 (by have := tv5058; have := tv5052; omega) (by have := tv5066; have := tv5059; omega) w5056.2 w5064.2 q5057 q5065 h8 h0 (by decide)) (mm_mu hm31 tv5071 (by decide) (rv5071).2 (by decide)) H locs hP hD hS ls (lv_sub hl [0, 4, 5] rfl)
              · refine lv_goto (tgt := 121) hx hb dX12_laysLand_53 (by decide) ?_
                obtain ⟨v5072, ev5072⟩ : ∃ y : Int32, y = x31_2_536 + 1 := ⟨_, rfl⟩
                refine lv_iinc (v := v5072) (lv' := [(2, .int v5072), (0, .ref a_0), (1, .int i_0)]) hx hb dX12_laysLand_121 hl (k := 0) rfl (by rw [ev5072]; rfl) (by decide) rfl ?_
                clear hl
                clear ls
                intro ls hl
                have rv5072 : mm_rg v5072 1 30 := mm_add ev5072 q5046 mm_k1 (by decide) (by decide)
                have tv5072 := mm_addEc ev5072 q5046 mm_k1 (by decide) (k := 1) (by decide)
                refine lv_goto (tgt := 31) hx hb dX12_laysLand_124 (by decide) ?_
                exact ih31 v5072 z31_6_537 (mm_wk rv5072 (by decide)) rz31_6_537 w538 (mm_mu hm31 tv5072 (by decide) (rv5072).2 (by decide)) H locs hP hD hS ls (lv_sub hl [0, 1, 2] rfl)
        exact L31_538 _ 0 z2_6_142 (mm_wk mm_k0 (by decide)) rz2_6_142 (mm_tp_0 w143 t148 (mm_le c149) h8 h0 (by decide)) (Nat.lt_succ_self _) H locs hP hD hS ls (lv_sub hl [0, 1, 2] rfl)
      · have q5073 := mm_ltL (h := 9) (mm_nle c149) rx2_2_141 w146 (by decide)
        refine lv_aload_n hx hb dX12_laysLand_10 rfl (lv_at hl 1 rfl) ?_
        refine va_get (D := G) (ci := 12) (v := .ref a_15) (C := RX12) (T := TX12) (N := 38) hx hb hts (mm_i inlX12) hown hK.1 hP 0 rfl rfl 25 (by decide) (mm_h hts mm_w157) (fun _ h9 => h9) rfl dX12_laysLand_11 ?_
        refine lv_sipush (v := 2400) hx hb dX12_laysLand_14 (by decide) ?_
        refine lv_iload_n hx hb dX12_laysLand_17 rfl (lv_at hl 2 rfl) ?_
        refine lv_imul hx hb dX12_laysLand_18 ?_
        refine lv_topi (fun v5074 ev5074 => ?_)
        have rv5074 : mm_rg v5074 0 4800 := mm_mul ev5074 mm_k2400 h0 (by decide) (by decide)
        have tv5074 := mm_mulEc ev5074 mm_k2400 h0 (by decide) (k := 2400) (by decide)
        refine lv_iload_n hx hb dX12_laysLand_19 rfl (lv_at hl 0 rfl) ?_
        refine lv_iadd hx hb dX12_laysLand_20 ?_
        refine lv_topi (fun v5075 ev5075 => ?_)
        have rv5075 : mm_rg v5075 0 4809 := mm_add ev5075 rv5074 q5073 (by decide) (by decide)
        have tv5075 := mm_addE ev5075 rv5074 q5073 (by decide)
        refine lv_iload_n hx hb dX12_laysLand_21 rfl (lv_at hl 0 rfl) ?_
        refine va_iast hx hb hK.1 hP hD hS 6 1 rfl rfl (mm_in rv5075 (by decide)) dX12_laysLand_22 ?_
        clear hP hD hS
        clear H locs
        obtain ⟨g5076, eg5076⟩ : ∃ z : Nat → Int32, z = upd z2_6_142 v5075.toNatClampNeg x2_2_141 := ⟨_, rfl⟩
        rw [← eg5076]
        intro H locs (hP : va_P G vwCl [(a_0, .inr (12, [.int i_1, .ref a_1, .ref a_2, .ref a_3, .ref a_4, .ref a_5, .int i_2, .int i_3, .int i_4, .int i_5, .int i_6, .long j_0, .int i_7, .int i_8, .int i_9, .int i_10, .ref a_6, .ref a_7, .ref a_8, .ref a_9, .ref a_10, .ref a_11, .ref a_12, .ref a_13, .ref a_14, .ref a_15, .ref a_16, .ref a_17, .ref a_18, .int i_11, .int i_12, .int i_13, .int i_14, .int i_15, .int i_16, .ref a_19, .int i_17, .ref a_20])), (a_6, .inl (cy 1, 5, .inl (mm_g [i_18, i_19, i_20, i_21, i_22]))), (a_7, .inl (cy 1, 30, .inl (mm_g [i_23, i_24, i_25, i_26, i_27, i_28, i_29, i_30, i_31, i_32, i_33, i_34, i_35, i_36, i_37, i_38, i_39, i_40, i_41, i_42, i_43, i_44, i_45, i_46, i_47, i_48, i_49, i_50, i_51, i_52]))), (a_9, .inl (cy 1, 15, .inl f_0)), (a_10, .inl (cy 1, 1050, .inl f_1)), (a_13, .inl (cy 1, 450, .inl f_2)), (a_15, .inl (cy 1, 7200, .inl g5076)), (a_16, .inl (cy 1, 3, .inl f_4)), (a_17, .inl (cy 1, 3, .inl f_5))] H) (hD : va_D A [(a_0, .inr (12, [.int i_1, .ref a_1, .ref a_2, .ref a_3, .ref a_4, .ref a_5, .int i_2, .int i_3, .int i_4, .int i_5, .int i_6, .long j_0, .int i_7, .int i_8, .int i_9, .int i_10, .ref a_6, .ref a_7, .ref a_8, .ref a_9, .ref a_10, .ref a_11, .ref a_12, .ref a_13, .ref a_14, .ref a_15, .ref a_16, .ref a_17, .ref a_18, .int i_11, .int i_12, .int i_13, .int i_14, .int i_15, .int i_16, .ref a_19, .int i_17, .ref a_20])), (a_6, .inl (cy 1, 5, .inl (mm_g [i_18, i_19, i_20, i_21, i_22]))), (a_7, .inl (cy 1, 30, .inl (mm_g [i_23, i_24, i_25, i_26, i_27, i_28, i_29, i_30, i_31, i_32, i_33, i_34, i_35, i_36, i_37, i_38, i_39, i_40, i_41, i_42, i_43, i_44, i_45, i_46, i_47, i_48, i_49, i_50, i_51, i_52]))), (a_9, .inl (cy 1, 15, .inl f_0)), (a_10, .inl (cy 1, 1050, .inl f_1)), (a_13, .inl (cy 1, 450, .inl f_2)), (a_15, .inl (cy 1, 7200, .inl g5076)), (a_16, .inl (cy 1, 3, .inl f_4)), (a_17, .inl (cy 1, 3, .inl f_5))]) hS
        have rg5076 : mm_ar g5076 0 9 := by rw [eg5076]; exact mm_ar_upd (mm_ar_wk rz2_6_142 (by decide)) (mm_wk q5073 (by decide)) _
        obtain ⟨v5077, ev5077⟩ : ∃ y : Int32, y = x2_2_141 + 1 := ⟨_, rfl⟩
        refine lv_iinc (v := v5077) (lv' := [(2, .int v5077), (0, .ref a_0), (1, .int i_0)]) hx hb dX12_laysLand_23 hl (k := 0) rfl (by rw [ev5077]; rfl) (by decide) rfl ?_
        clear hl
        clear ls
        intro ls hl
        have rv5077 : mm_rg v5077 1 10 := mm_add ev5077 q5073 mm_k1 (by decide) (by decide)
        have tv5077 := mm_addEc ev5077 q5073 mm_k1 (by decide) (k := 1) (by decide)
        refine lv_goto (tgt := 2) hx hb dX12_laysLand_26 (by decide) ?_
        exact ih2 v5077 g5076 (mm_wk rv5077 (by decide)) rg5076 (mm_t0_s w143 tv5077 eg5076 (by have := tv5075; have := tv5074; omega) q5073 h0 (by decide)) (mm_mu hm2 tv5077 (by decide) (rv5077).2 (by decide)) H locs hP hD hS ls (lv_sub hl [0, 1, 2] rfl)
  exact L2_143 _ 0 f_3 (mm_wk mm_k0 (by decide)) h39 (mm_t0_0 _ _) (Nat.lt_succ_self _) H locs hP hD hS ls (lv_sub hl [0, 1, 2] rfl)

set_option maxHeartbeats 4000000 in
set_option maxRecDepth 100000 in
theorem M125_X12_lays (l : Launch) (G : va_G) (cy : Nat → ClassId) (sz : Nat) (a_0 : Nat) (i_0 : Int32) (a_1 : Nat) (a_2 : Nat) (a_3 : Nat) (a_4 : Nat) (a_5 : Nat) (i_1 : Int32) (i_2 : Int32) (i_3 : Int32) (i_4 : Int32) (i_5 : Int32) (j_0 : Int64) (i_6 : Int32) (i_7 : Int32) (i_8 : Int32) (i_9 : Int32) (a_6 : Nat) (a_7 : Nat) (a_8 : Nat) (a_9 : Nat) (a_10 : Nat) (a_11 : Nat) (a_12 : Nat) (a_13 : Nat) (a_14 : Nat) (a_15 : Nat) (a_16 : Nat) (a_17 : Nat) (a_18 : Nat) (i_10 : Int32) (i_11 : Int32) (i_12 : Int32) (i_13 : Int32) (i_14 : Int32) (i_15 : Int32) (a_19 : Nat) (i_16 : Int32) (a_20 : Nat) (i_17 : Int32) (i_18 : Int32) (i_19 : Int32) (i_20 : Int32) (i_21 : Int32) (i_22 : Int32) (i_23 : Int32) (i_24 : Int32) (i_25 : Int32) (i_26 : Int32) (i_27 : Int32) (i_28 : Int32) (i_29 : Int32) (i_30 : Int32) (i_31 : Int32) (i_32 : Int32) (i_33 : Int32) (i_34 : Int32) (i_35 : Int32) (i_36 : Int32) (i_37 : Int32) (i_38 : Int32) (i_39 : Int32) (i_40 : Int32) (i_41 : Int32) (i_42 : Int32) (i_43 : Int32) (i_44 : Int32) (i_45 : Int32) (i_46 : Int32) (i_47 : Int32) (i_48 : Int32) (i_49 : Int32) (i_50 : Int32) (i_51 : Int32) (f_0 : Nat → Int32) (f_1 : Nat → Int32) (f_2 : Nat → Int32) (f_3 : Nat → Int32) (f_4 : Nat → Int32) (f_5 : Nat → Int32) (h0 : mm_rg i_17 0 601) (h1 : mm_rg i_18 0 601) (h2 : mm_rg i_19 0 601) (h3 : mm_rg i_20 0 601) (h4 : mm_rg i_21 0 601) (h5 : mm_rg i_22 0 10) (h6 : mm_rg i_23 0 99) (h7 : mm_rg i_24 0 9) (h8 : mm_rg i_25 0 3) (h9 : mm_rg i_26 0 6) (h10 : mm_rg i_27 0 30) (h11 : mm_rg i_28 0 10) (h12 : mm_rg i_29 0 99) (h13 : mm_rg i_30 0 9) (h14 : mm_rg i_31 0 3) (h15 : mm_rg i_32 0 6) (h16 : mm_rg i_33 0 30) (h17 : mm_rg i_34 0 10) (h18 : mm_rg i_35 0 99) (h19 : mm_rg i_36 0 9) (h20 : mm_rg i_37 0 3) (h21 : mm_rg i_38 0 6) (h22 : mm_rg i_39 0 30) (h23 : mm_rg i_40 0 10) (h24 : mm_rg i_41 0 99) (h25 : mm_rg i_42 0 9) (h26 : mm_rg i_43 0 3) (h27 : mm_rg i_44 0 6) (h28 : mm_rg i_45 0 30) (h29 : mm_rg i_46 0 10) (h30 : mm_rg i_47 0 99) (h31 : mm_rg i_48 0 9) (h32 : mm_rg i_49 0 3) (h33 : mm_rg i_50 0 6) (h34 : mm_rg i_51 0 30) (h35 : mm_ar f_0 0 7) (h36 : mm_ar f_1 0 9) (h37 : mm_ar f_2 (-1) 99) (h38 : mm_ar f_3 0 9) (h39 : mm_ar f_4 0 210) (h40 : mm_ar f_5 0 210) (h41 : mm_rls f_0 f_1 0 i_24 i_25) (h42 : mm_acs f_2 0 i_24 i_25 i_27) (h43 : mm_tl i_17 i_25 i_26) (h44 : mm_rls f_0 f_1 1 i_30 i_31) (h45 : mm_acs f_2 1 i_30 i_31 i_33) (h46 : mm_tl i_18 i_31 i_32) (h47 : mm_rls f_0 f_1 2 i_36 i_37) (h48 : mm_acs f_2 2 i_36 i_37 i_39) (h49 : mm_tl i_19 i_37 i_38) (h50 : mm_rls f_0 f_1 3 i_42 i_43) (h51 : mm_acs f_2 3 i_42 i_43 i_45) (h52 : mm_tl i_20 i_43 i_44)  : mm_CV l yX12_lays (mm_ws yX12_lays cX12_lays 2 (none)) ({ frames := 13, cells := 0, slots := 0, locals := 279 } : Room) G cy sz [(a_0, .inr (12, [.int i_0, .ref a_1, .ref a_2, .ref a_3, .ref a_4, .ref a_5, .int i_1, .int i_2, .int i_3, .int i_4, .int i_5, .long j_0, .int i_6, .int i_7, .int i_8, .int i_9, .ref a_6, .ref a_7, .ref a_8, .ref a_9, .ref a_10, .ref a_11, .ref a_12, .ref a_13, .ref a_14, .ref a_15, .ref a_16, .ref a_17, .ref a_18, .int i_10, .int i_11, .int i_12, .int i_13, .int i_14, .int i_15, .ref a_19, .int i_16, .ref a_20])), (a_6, .inl (cy 1, 5, .inl (mm_g [i_17, i_18, i_19, i_20, i_21]))), (a_7, .inl (cy 1, 30, .inl (mm_g [i_22, i_23, i_24, i_25, i_26, i_27, i_28, i_29, i_30, i_31, i_32, i_33, i_34, i_35, i_36, i_37, i_38, i_39, i_40, i_41, i_42, i_43, i_44, i_45, i_46, i_47, i_48, i_49, i_50, i_51]))), (a_9, .inl (cy 1, 15, .inl f_0)), (a_10, .inl (cy 1, 1050, .inl f_1)), (a_13, .inl (cy 1, 450, .inl f_2)), (a_15, .inl (cy 1, 7200, .inl f_3)), (a_16, .inl (cy 1, 3, .inl f_4)), (a_17, .inl (cy 1, 3, .inl f_5))] [.ref a_0] (fun u : (Nat → Int32) × (Nat → Int32) × (Nat → Int32) => [(a_0, .inr (12, [.int i_0, .ref a_1, .ref a_2, .ref a_3, .ref a_4, .ref a_5, .int i_1, .int i_2, .int i_3, .int i_4, .int i_5, .long j_0, .int i_6, .int i_7, .int i_8, .int i_9, .ref a_6, .ref a_7, .ref a_8, .ref a_9, .ref a_10, .ref a_11, .ref a_12, .ref a_13, .ref a_14, .ref a_15, .ref a_16, .ref a_17, .ref a_18, .int i_10, .int i_11, .int i_12, .int i_13, .int i_14, .int i_15, .ref a_19, .int i_16, .ref a_20])), (a_6, .inl (cy 1, 5, .inl (mm_g [i_17, i_18, i_19, i_20, i_21]))), (a_7, .inl (cy 1, 30, .inl (mm_g [i_22, i_23, i_24, i_25, i_26, i_27, i_28, i_29, i_30, i_31, i_32, i_33, i_34, i_35, i_36, i_37, i_38, i_39, i_40, i_41, i_42, i_43, i_44, i_45, i_46, i_47, i_48, i_49, i_50, i_51]))), (a_9, .inl (cy 1, 15, .inl f_0)), (a_10, .inl (cy 1, 1050, .inl f_1)), (a_13, .inl (cy 1, 450, .inl f_2)), (a_15, .inl (cy 1, 7200, .inl u.1)), (a_16, .inl (cy 1, 3, .inl u.2.1)), (a_17, .inl (cy 1, 3, .inl u.2.2))]) (fun u : (Nat → Int32) × (Nat → Int32) × (Nat → Int32) => mm_ar u.1 0 9 ∧ mm_ar u.2.1 0 210 ∧ mm_ar u.2.2 0 210 ∧ mm_laid u.2.1 u.2.2 i_25 ∧ mm_tab u.1 u.2.1 i_24 i_25) 0 0 := by
  refine mm_begin (lv := [(0, .ref a_0)]) (by decide) (Nat.le_of_ble_eq_true rfl) rfl ?_
  intro p e s m below meth c A ls R args Q H locs hRe hQ hAe hx hb hr hlocks hml hown hnm hts hsz hA hS hP hK hD hZ hl
  have hRf : R.frames = 13 := by rw [hRe]
  have hRl : R.locals = 279 := by rw [hRe]
  have hRc : R.cells = 0 := by rw [hRe]
  have hRs : R.slots = 0 := by rw [hRe]
  refine lv_iconst (v := 0) hx hb dX12_lays_0 (by decide) ?_
  refine lv_istore_n (lv' := [(1, .int 0), (0, .ref a_0)]) hx hb dX12_lays_1 rfl hl (by decide) rfl ?_
  clear hl
  clear ls
  intro ls hl
  have L2_65 : ∀ (n : Nat) (x2_1_60 : Int32) (z2_6_61 : Nat → Int32) (z2_7_62 : Nat → Int32) (z2_8_63 : Nat → Int32), mm_rg x2_1_60 0 3 → mm_ar z2_6_61 0 9 → mm_ar z2_7_62 0 210 → mm_ar z2_8_63 0 210 → mm_laid z2_7_62 z2_8_63 x2_1_60 → mm_tab z2_6_61 z2_7_62 i_24 x2_1_60 → (3 - x2_1_60.toInt).toNat < n → ∀ (H : Heap) (locs : List Loc), va_P G vwCl [(a_0, .inr (12, [.int i_0, .ref a_1, .ref a_2, .ref a_3, .ref a_4, .ref a_5, .int i_1, .int i_2, .int i_3, .int i_4, .int i_5, .long j_0, .int i_6, .int i_7, .int i_8, .int i_9, .ref a_6, .ref a_7, .ref a_8, .ref a_9, .ref a_10, .ref a_11, .ref a_12, .ref a_13, .ref a_14, .ref a_15, .ref a_16, .ref a_17, .ref a_18, .int i_10, .int i_11, .int i_12, .int i_13, .int i_14, .int i_15, .ref a_19, .int i_16, .ref a_20])), (a_6, .inl (cy 1, 5, .inl (mm_g [i_17, i_18, i_19, i_20, i_21]))), (a_7, .inl (cy 1, 30, .inl (mm_g [i_22, i_23, i_24, i_25, i_26, i_27, i_28, i_29, i_30, i_31, i_32, i_33, i_34, i_35, i_36, i_37, i_38, i_39, i_40, i_41, i_42, i_43, i_44, i_45, i_46, i_47, i_48, i_49, i_50, i_51]))), (a_9, .inl (cy 1, 15, .inl f_0)), (a_10, .inl (cy 1, 1050, .inl f_1)), (a_13, .inl (cy 1, 450, .inl f_2)), (a_15, .inl (cy 1, 7200, .inl z2_6_61)), (a_16, .inl (cy 1, 3, .inl z2_7_62)), (a_17, .inl (cy 1, 3, .inl z2_8_63))] H → va_D A [(a_0, .inr (12, [.int i_0, .ref a_1, .ref a_2, .ref a_3, .ref a_4, .ref a_5, .int i_1, .int i_2, .int i_3, .int i_4, .int i_5, .long j_0, .int i_6, .int i_7, .int i_8, .int i_9, .ref a_6, .ref a_7, .ref a_8, .ref a_9, .ref a_10, .ref a_11, .ref a_12, .ref a_13, .ref a_14, .ref a_15, .ref a_16, .ref a_17, .ref a_18, .int i_10, .int i_11, .int i_12, .int i_13, .int i_14, .int i_15, .ref a_19, .int i_16, .ref a_20])), (a_6, .inl (cy 1, 5, .inl (mm_g [i_17, i_18, i_19, i_20, i_21]))), (a_7, .inl (cy 1, 30, .inl (mm_g [i_22, i_23, i_24, i_25, i_26, i_27, i_28, i_29, i_30, i_31, i_32, i_33, i_34, i_35, i_36, i_37, i_38, i_39, i_40, i_41, i_42, i_43, i_44, i_45, i_46, i_47, i_48, i_49, i_50, i_51]))), (a_9, .inl (cy 1, 15, .inl f_0)), (a_10, .inl (cy 1, 1050, .inl f_1)), (a_13, .inl (cy 1, 450, .inl f_2)), (a_15, .inl (cy 1, 7200, .inl z2_6_61)), (a_16, .inl (cy 1, 3, .inl z2_7_62)), (a_17, .inl (cy 1, 3, .inl z2_8_63))] → va_S A s.heap H locs → ∀ (ls : Array Slot), lv_has ls 2 [(1, .int x2_1_60), (0, .ref a_0)] → W p l e R s m args below meth c H locs 0 0 Q (F0 m 2 ls []) := by
    intro n
    induction n with
    | zero => intro x2_1_60 z2_6_61 z2_7_62 z2_8_63 rx2_1_60 rz2_6_61 rz2_7_62 rz2_8_63 w64 w65 hm; exact absurd hm (Nat.not_lt_zero _)
    | succ n ih2 =>
      intro x2_1_60 z2_6_61 z2_7_62 z2_8_63 rx2_1_60 rz2_6_61 rz2_7_62 rz2_8_63 w64 w65 hm2 H locs hP hD hS ls hl
      refine lv_iload_n hx hb dX12_lays_2 rfl (lv_at hl 0 rfl) ?_
      refine lv_aload_n hx hb dX12_lays_3 rfl (lv_at hl 1 rfl) ?_
      refine va_get (D := G) (ci := 12) (v := .ref a_7) (C := RX12) (T := TX12) (N := 38) hx hb hts (mm_i inlX12) hown hK.1 hP 0 rfl rfl 17 (by decide) (mm_h hts mm_w149) (fun _ h9 => h9) rfl dX12_lays_4 ?_
      refine lv_iconst (v := 3) hx hb dX12_lays_7 (by decide) ?_
      refine va_iald hx hb hK.1 hP 2 1 rfl rfl (mm_in mm_k3 (by decide)) dX12_lays_8 ?_
      rw [show (mm_g [i_22, i_23, i_24, i_25, i_26, i_27, i_28, i_29, i_30, i_31, i_32, i_33, i_34, i_35, i_36, i_37, i_38, i_39, i_40, i_41, i_42, i_43, i_44, i_45, i_46, i_47, i_48, i_49, i_50, i_51]) (3 : Int32).toNatClampNeg = i_25 from mm_ge 3 (by decide) rfl]
      refine lv_icmp_ge (tgt := 23) hx hb dX12_lays_9 (by decide) (fun c67 => ?_) (fun c67 => ?_)
      · have w68 : mm_laid z2_7_62 z2_8_63 i_25 := (mm_laid_le w64 (mm_le c67))
        have w69 : mm_tab z2_6_61 z2_7_62 i_24 i_25 := (mm_tab_le w65 (mm_le c67))
        subst hAe
        rw [hQ]
        exact W.vret hx hb hr (fun t ht hW => ⟨⟨(z2_6_61, z2_7_62, z2_8_63), rfl, ⟨rz2_6_61, rz2_7_62, rz2_8_63, w68, w69⟩, by rw [ht]; exact hP, hK.warm hW, hD⟩, hS.F ht⟩) hS.2.2 dX12_lays_23
      · have q70 := mm_ltL (h := 2) (mm_nle c67) rx2_1_60 h8 (by decide)
        have q71 := mm_ltR (lo := 1) (mm_nle c67) rx2_1_60 h8 (by decide)
        have q72 : mm_rg i_17 1 601 := mm_tl_3 h43 q71 h0 (by decide)
        refine lv_aload_n hx hb dX12_lays_12 rfl (lv_at hl 1 rfl) ?_
        refine lv_iload_n hx hb dX12_lays_13 rfl (lv_at hl 0 rfl) ?_
        refine mm_finv (va_runV (As := [.int x2_1_60]) (rest := []) ⟨hx, hb, hml, hown, hts⟩ (M124_X12_laysLand l G cy H.size a_0 x2_1_60 i_0 a_1 a_2 a_3 a_4 a_5 i_1 i_2 i_3 i_4 i_5 j_0 i_6 i_7 i_8 i_9 a_6 a_7 a_8 a_9 a_10 a_11 a_12 a_13 a_14 a_15 a_16 a_17 a_18 i_10 i_11 i_12 i_13 i_14 i_15 a_19 i_16 a_20 i_17 i_18 i_19 i_20 i_21 i_22 i_23 i_24 i_25 i_26 i_27 i_28 i_29 i_30 i_31 i_32 i_33 i_34 i_35 i_36 i_37 i_38 i_39 i_40 i_41 i_42 i_43 i_44 i_45 i_46 i_47 i_48 i_49 i_50 i_51 f_0 f_1 f_2 z2_6_61 z2_7_62 z2_8_63 q70 (mm_wk q72 (by decide)) h1 h2 h3 h4 h5 h6 h7 (mm_wk q71 (by decide)) h9 h10 h11 h12 h13 h14 h15 h16 h17 h18 h19 h20 h21 h22 h23 h24 h25 h26 h27 h28 h29 h30 h31 h32 h33 h34 h35 h36 h37 rz2_6_61 rz2_7_62 rz2_8_63 h41 h42 h43 h44 h45 h46 h47 h48 h49 h50 h51 h52 (mm_nle c67)) (cwV 1 hts (mm_gV mm_w690 mm_w691 mm_w692 mm_w5 mm_w693) rfl rfl rfl hd_X12_laysLand ⟨by rw [hRf]; exact Nat.le_of_ble_eq_true rfl, by rw [hRl]; exact Nat.le_of_ble_eq_true rfl⟩) (mm_preV hK hZ hS hA hP hD [0, 1, 2, 3, 4, 5, 6, 7, 8] rfl rfl 0 rfl rfl rfl) rfl rfl hl.1 rfl (lv_room (Nat.le_of_ble_eq_true rfl)) dX12_lays_14 ⟨by rw [hRc]; exact Nat.le_of_ble_eq_true rfl, by rw [hRs]; exact Nat.le_of_ble_eq_true rfl⟩) hP hD hS hA (fun u : (Nat → Int32) × (Nat → Int32) × (Nat → Int32) => [(a_0, .inr (12, [.int i_0, .ref a_1, .ref a_2, .ref a_3, .ref a_4, .ref a_5, .int i_1, .int i_2, .int i_3, .int i_4, .int i_5, .long j_0, .int i_6, .int i_7, .int i_8, .int i_9, .ref a_6, .ref a_7, .ref a_8, .ref a_9, .ref a_10, .ref a_11, .ref a_12, .ref a_13, .ref a_14, .ref a_15, .ref a_16, .ref a_17, .ref a_18, .int i_10, .int i_11, .int i_12, .int i_13, .int i_14, .int i_15, .ref a_19, .int i_16, .ref a_20])), (a_6, .inl (cy 1, 5, .inl (mm_g [i_17, i_18, i_19, i_20, i_21]))), (a_7, .inl (cy 1, 30, .inl (mm_g [i_22, i_23, i_24, i_25, i_26, i_27, i_28, i_29, i_30, i_31, i_32, i_33, i_34, i_35, i_36, i_37, i_38, i_39, i_40, i_41, i_42, i_43, i_44, i_45, i_46, i_47, i_48, i_49, i_50, i_51]))), (a_9, .inl (cy 1, 15, .inl f_0)), (a_10, .inl (cy 1, 1050, .inl f_1)), (a_13, .inl (cy 1, 450, .inl f_2)), (a_15, .inl (cy 1, 7200, .inl u.1)), (a_16, .inl (cy 1, 3, .inl u.2.1)), (a_17, .inl (cy 1, 3, .inl u.2.2))]) [0, 1, 2, 3, 4, 5, 6, 7, 8] [] (n := 9) (fun _ => rfl) (by decide +kernel) (by decide +kernel) rfl (fun _ => rfl) (wr := []) rfl (fun _ => rfl) (fun _ => @rfl _ ([a_0, a_6, a_7, a_9, a_10, a_13, a_15, a_16, a_17] : List Nat)) ?_
        clear hP hD hS
        clear H locs
        intro u
        obtain ⟨n73, n74, n75⟩ := u
        intro H locs hw (hP : va_P G vwCl [(a_0, .inr (12, [.int i_0, .ref a_1, .ref a_2, .ref a_3, .ref a_4, .ref a_5, .int i_1, .int i_2, .int i_3, .int i_4, .int i_5, .long j_0, .int i_6, .int i_7, .int i_8, .int i_9, .ref a_6, .ref a_7, .ref a_8, .ref a_9, .ref a_10, .ref a_11, .ref a_12, .ref a_13, .ref a_14, .ref a_15, .ref a_16, .ref a_17, .ref a_18, .int i_10, .int i_11, .int i_12, .int i_13, .int i_14, .int i_15, .ref a_19, .int i_16, .ref a_20])), (a_6, .inl (cy 1, 5, .inl (mm_g [i_17, i_18, i_19, i_20, i_21]))), (a_7, .inl (cy 1, 30, .inl (mm_g [i_22, i_23, i_24, i_25, i_26, i_27, i_28, i_29, i_30, i_31, i_32, i_33, i_34, i_35, i_36, i_37, i_38, i_39, i_40, i_41, i_42, i_43, i_44, i_45, i_46, i_47, i_48, i_49, i_50, i_51]))), (a_9, .inl (cy 1, 15, .inl f_0)), (a_10, .inl (cy 1, 1050, .inl f_1)), (a_13, .inl (cy 1, 450, .inl f_2)), (a_15, .inl (cy 1, 7200, .inl n73)), (a_16, .inl (cy 1, 3, .inl n74)), (a_17, .inl (cy 1, 3, .inl n75))] H) (hD : va_D A [(a_0, .inr (12, [.int i_0, .ref a_1, .ref a_2, .ref a_3, .ref a_4, .ref a_5, .int i_1, .int i_2, .int i_3, .int i_4, .int i_5, .long j_0, .int i_6, .int i_7, .int i_8, .int i_9, .ref a_6, .ref a_7, .ref a_8, .ref a_9, .ref a_10, .ref a_11, .ref a_12, .ref a_13, .ref a_14, .ref a_15, .ref a_16, .ref a_17, .ref a_18, .int i_10, .int i_11, .int i_12, .int i_13, .int i_14, .int i_15, .ref a_19, .int i_16, .ref a_20])), (a_6, .inl (cy 1, 5, .inl (mm_g [i_17, i_18, i_19, i_20, i_21]))), (a_7, .inl (cy 1, 30, .inl (mm_g [i_22, i_23, i_24, i_25, i_26, i_27, i_28, i_29, i_30, i_31, i_32, i_33, i_34, i_35, i_36, i_37, i_38, i_39, i_40, i_41, i_42, i_43, i_44, i_45, i_46, i_47, i_48, i_49, i_50, i_51]))), (a_9, .inl (cy 1, 15, .inl f_0)), (a_10, .inl (cy 1, 1050, .inl f_1)), (a_13, .inl (cy 1, 450, .inl f_2)), (a_15, .inl (cy 1, 7200, .inl n73)), (a_16, .inl (cy 1, 3, .inl n74)), (a_17, .inl (cy 1, 3, .inl n75))]) hS
        obtain ⟨w76, w77, w78, w79⟩ := hw
        replace w79 : mm_ll z2_6_61 z2_7_62 z2_8_63 n73 n74 n75 x2_1_60 i_24 := w79
        obtain ⟨v80, ev80⟩ : ∃ y : Int32, y = x2_1_60 + 1 := ⟨_, rfl⟩
        refine lv_iinc (v := v80) (lv' := [(1, .int v80), (0, .ref a_0)]) hx hb dX12_lays_17 hl (k := 0) rfl (by rw [ev80]; rfl) (by decide) rfl ?_
        clear hl
        clear ls
        intro ls hl
        have rv80 : mm_rg v80 1 3 := mm_add ev80 q70 mm_k1 (by decide) (by decide)
        have tv80 := mm_addEc ev80 q70 mm_k1 (by decide) (k := 1) (by decide)
        refine lv_goto (tgt := 2) hx hb dX12_lays_20 (by decide) ?_
        exact ih2 v80 n73 n74 n75 (mm_wk rv80 (by decide)) w76 w77 w78 (mm_laid_s w64 w79 tv80 q70 (by decide)) (mm_tab_s w65 w64 w79 tv80 q70 h7 (by decide)) (mm_mu hm2 tv80 (by decide) (rv80).2 (by decide)) H locs hP hD hS ls (lv_sub hl [0, 1] rfl)
  exact L2_65 _ 0 f_3 f_4 f_5 (mm_wk mm_k0 (by decide)) h38 h39 h40 (mm_laid_0 mm_k0 (by decide)) (mm_tab_0 mm_k0 (by decide)) (Nat.lt_succ_self _) H locs hP hD hS ls (lv_sub hl [0, 1] rfl)

set_option maxHeartbeats 4000000 in
set_option maxRecDepth 100000 in
theorem M126_X12_means (l : Launch) (G : va_G) (cy : Nat → ClassId) (sz : Nat) (a_0 : Nat) (i_0 : Int32) (i_1 : Int32) (i_2 : Int32) (i_3 : Int32) (a_1 : Nat) (a_2 : Nat) (a_3 : Nat) (a_4 : Nat) (a_5 : Nat) (i_4 : Int32) (i_5 : Int32) (i_6 : Int32) (i_7 : Int32) (i_8 : Int32) (j_0 : Int64) (i_9 : Int32) (i_10 : Int32) (i_11 : Int32) (i_12 : Int32) (a_6 : Nat) (a_7 : Nat) (a_8 : Nat) (a_9 : Nat) (a_10 : Nat) (a_11 : Nat) (a_12 : Nat) (a_13 : Nat) (a_14 : Nat) (a_15 : Nat) (a_16 : Nat) (a_17 : Nat) (a_18 : Nat) (i_13 : Int32) (i_14 : Int32) (i_15 : Int32) (i_16 : Int32) (i_17 : Int32) (i_18 : Int32) (a_19 : Nat) (i_19 : Int32) (a_20 : Nat) (i_20 : Int32) (i_21 : Int32) (i_22 : Int32) (i_23 : Int32) (i_24 : Int32) (i_25 : Int32) (i_26 : Int32) (i_27 : Int32) (i_28 : Int32) (i_29 : Int32) (i_30 : Int32) (i_31 : Int32) (i_32 : Int32) (i_33 : Int32) (i_34 : Int32) (i_35 : Int32) (i_36 : Int32) (i_37 : Int32) (i_38 : Int32) (i_39 : Int32) (i_40 : Int32) (i_41 : Int32) (i_42 : Int32) (i_43 : Int32) (i_44 : Int32) (i_45 : Int32) (i_46 : Int32) (i_47 : Int32) (i_48 : Int32) (i_49 : Int32) (i_50 : Int32) (i_51 : Int32) (i_52 : Int32) (i_53 : Int32) (i_54 : Int32) (f_0 : Nat → Int32) (f_1 : Nat → Int32) (f_2 : Nat → Int32) (f_3 : Nat → Int32) (f_4 : Nat → Int32) (f_5 : Nat → Int32) (h0 : mm_rg i_20 0 601) (h1 : mm_rg i_21 0 601) (h2 : mm_rg i_22 0 601) (h3 : mm_rg i_23 0 601) (h4 : mm_rg i_24 0 601) (h5 : mm_rg i_25 0 10) (h6 : mm_rg i_26 0 99) (h7 : mm_rg i_27 0 9) (h8 : mm_rg i_28 0 3) (h9 : mm_rg i_29 0 6) (h10 : mm_rg i_30 0 30) (h11 : mm_rg i_31 0 10) (h12 : mm_rg i_32 0 99) (h13 : mm_rg i_33 0 9) (h14 : mm_rg i_34 0 3) (h15 : mm_rg i_35 0 6) (h16 : mm_rg i_36 0 30) (h17 : mm_rg i_37 0 10) (h18 : mm_rg i_38 0 99) (h19 : mm_rg i_39 0 9) (h20 : mm_rg i_40 0 3) (h21 : mm_rg i_41 0 6) (h22 : mm_rg i_42 0 30) (h23 : mm_rg i_43 0 10) (h24 : mm_rg i_44 0 99) (h25 : mm_rg i_45 0 9) (h26 : mm_rg i_46 0 3) (h27 : mm_rg i_47 0 6) (h28 : mm_rg i_48 0 30) (h29 : mm_rg i_49 0 10) (h30 : mm_rg i_50 0 99) (h31 : mm_rg i_51 0 9) (h32 : mm_rg i_52 0 3) (h33 : mm_rg i_53 0 6) (h34 : mm_rg i_54 0 30) (h35 : mm_ar f_0 0 7) (h36 : mm_ar f_1 0 9) (h37 : mm_ar f_2 (-1) 99) (h38 : mm_ar f_3 0 9) (h39 : mm_ar f_4 0 210) (h40 : mm_ar f_5 0 210) (h41 : mm_rls f_0 f_1 0 i_27 i_28) (h42 : mm_acs f_2 0 i_27 i_28 i_30) (h43 : mm_tl i_20 i_28 i_29) (h44 : mm_rls f_0 f_1 1 i_33 i_34) (h45 : mm_acs f_2 1 i_33 i_34 i_36) (h46 : mm_tl i_21 i_34 i_35) (h47 : mm_rls f_0 f_1 2 i_39 i_40) (h48 : mm_acs f_2 2 i_39 i_40 i_42) (h49 : mm_tl i_22 i_40 i_41) (h50 : mm_rls f_0 f_1 3 i_45 i_46) (h51 : mm_acs f_2 3 i_45 i_46 i_48) (h52 : mm_tl i_23 i_46 i_47)  : mm_CI l yX12_means (mm_ws yX12_means cX12_means 4 (some .int)) ({ frames := 14, cells := 0, slots := 0, locals := 300 } : Room) G cy sz [(a_0, .inr (12, [.int i_3, .ref a_1, .ref a_2, .ref a_3, .ref a_4, .ref a_5, .int i_4, .int i_5, .int i_6, .int i_7, .int i_8, .long j_0, .int i_9, .int i_10, .int i_11, .int i_12, .ref a_6, .ref a_7, .ref a_8, .ref a_9, .ref a_10, .ref a_11, .ref a_12, .ref a_13, .ref a_14, .ref a_15, .ref a_16, .ref a_17, .ref a_18, .int i_13, .int i_14, .int i_15, .int i_16, .int i_17, .int i_18, .ref a_19, .int i_19, .ref a_20])), (a_6, .inl (cy 1, 5, .inl (mm_g [i_20, i_21, i_22, i_23, i_24]))), (a_7, .inl (cy 1, 30, .inl (mm_g [i_25, i_26, i_27, i_28, i_29, i_30, i_31, i_32, i_33, i_34, i_35, i_36, i_37, i_38, i_39, i_40, i_41, i_42, i_43, i_44, i_45, i_46, i_47, i_48, i_49, i_50, i_51, i_52, i_53, i_54]))), (a_9, .inl (cy 1, 15, .inl f_0)), (a_10, .inl (cy 1, 1050, .inl f_1)), (a_13, .inl (cy 1, 450, .inl f_2)), (a_15, .inl (cy 1, 7200, .inl f_3)), (a_16, .inl (cy 1, 3, .inl f_4)), (a_17, .inl (cy 1, 3, .inl f_5))] [.ref a_0, .int i_0, .int i_1, .int i_2] (fun u : (Nat → Int32) × (Nat → Int32) × (Nat → Int32) => [(a_0, .inr (12, [.int 0, .ref a_1, .ref a_2, .ref a_3, .ref a_4, .ref a_5, .int i_4, .int i_5, .int i_6, .int i_7, .int i_8, .long j_0, .int i_9, .int i_10, .int i_11, .int i_12, .ref a_6, .ref a_7, .ref a_8, .ref a_9, .ref a_10, .ref a_11, .ref a_12, .ref a_13, .ref a_14, .ref a_15, .ref a_16, .ref a_17, .ref a_18, .int i_13, .int i_14, .int i_15, .int i_16, .int i_17, .int i_18, .ref a_19, .int i_19, .ref a_20])), (a_6, .inl (cy 1, 5, .inl (mm_g [i_20, i_21, i_22, i_23, i_24]))), (a_7, .inl (cy 1, 30, .inl (mm_g [i_25, i_26, i_27, i_28, i_29, i_30, i_31, i_32, i_33, i_34, i_35, i_36, i_37, i_38, i_39, i_40, i_41, i_42, i_43, i_44, i_45, i_46, i_47, i_48, i_49, i_50, i_51, i_52, i_53, i_54]))), (a_9, .inl (cy 1, 15, .inl f_0)), (a_10, .inl (cy 1, 1050, .inl f_1)), (a_13, .inl (cy 1, 450, .inl f_2)), (a_15, .inl (cy 1, 7200, .inl u.1)), (a_16, .inl (cy 1, 3, .inl u.2.1)), (a_17, .inl (cy 1, 3, .inl u.2.2))]) (fun (r : Int32) (u : (Nat → Int32) × (Nat → Int32) × (Nat → Int32)) => mm_ar u.1 0 9 ∧ mm_ar u.2.1 0 210 ∧ mm_ar u.2.2 0 210 ∧ mm_rg r (-2) 9) 0 0 := by
  refine mm_begin (lv := [(0, .ref a_0), (1, .int i_0), (2, .int i_1), (3, .int i_2)]) (by decide) (Nat.le_of_ble_eq_true rfl) rfl ?_
  intro p e s m below meth c A ls R args Q H locs hRe hQ hAe hx hb hr hlocks hml hown hnm hts hsz hA hS hP hK hD hZ hl
  have hRf : R.frames = 14 := by rw [hRe]
  have hRl : R.locals = 300 := by rw [hRe]
  have hRc : R.cells = 0 := by rw [hRe]
  have hRs : R.slots = 0 := by rw [hRe]
  refine lv_aload_n hx hb dX12_means_0 rfl (lv_at hl 0 rfl) ?_
  refine lv_iconst (v := 0) hx hb dX12_means_1 (by decide) ?_
  refine va_put (D := G) (ci := 12) (v := .int 0) (ty := tyX12 0) (C := RX12) (T := TX12) (N := 38) hx hb hts (mm_i inlX12) tyX12 tyX12_ok nmX12 hown hK.1 hP hD hS 0 rfl rfl 0 (by decide) (mm_h hts mm_w177) (fun _ h9 => h9) rfl (tyX12_ok 0 (by decide)) rfl rfl (Nat.le_of_ble_eq_true rfl) dX12_means_2 ?_
  clear hP hD hS
  clear H locs
  intro H locs (hP : va_P G vwCl [(a_0, .inr (12, [.int 0, .ref a_1, .ref a_2, .ref a_3, .ref a_4, .ref a_5, .int i_4, .int i_5, .int i_6, .int i_7, .int i_8, .long j_0, .int i_9, .int i_10, .int i_11, .int i_12, .ref a_6, .ref a_7, .ref a_8, .ref a_9, .ref a_10, .ref a_11, .ref a_12, .ref a_13, .ref a_14, .ref a_15, .ref a_16, .ref a_17, .ref a_18, .int i_13, .int i_14, .int i_15, .int i_16, .int i_17, .int i_18, .ref a_19, .int i_19, .ref a_20])), (a_6, .inl (cy 1, 5, .inl (mm_g [i_20, i_21, i_22, i_23, i_24]))), (a_7, .inl (cy 1, 30, .inl (mm_g [i_25, i_26, i_27, i_28, i_29, i_30, i_31, i_32, i_33, i_34, i_35, i_36, i_37, i_38, i_39, i_40, i_41, i_42, i_43, i_44, i_45, i_46, i_47, i_48, i_49, i_50, i_51, i_52, i_53, i_54]))), (a_9, .inl (cy 1, 15, .inl f_0)), (a_10, .inl (cy 1, 1050, .inl f_1)), (a_13, .inl (cy 1, 450, .inl f_2)), (a_15, .inl (cy 1, 7200, .inl f_3)), (a_16, .inl (cy 1, 3, .inl f_4)), (a_17, .inl (cy 1, 3, .inl f_5))] H) (hD : va_D A [(a_0, .inr (12, [.int 0, .ref a_1, .ref a_2, .ref a_3, .ref a_4, .ref a_5, .int i_4, .int i_5, .int i_6, .int i_7, .int i_8, .long j_0, .int i_9, .int i_10, .int i_11, .int i_12, .ref a_6, .ref a_7, .ref a_8, .ref a_9, .ref a_10, .ref a_11, .ref a_12, .ref a_13, .ref a_14, .ref a_15, .ref a_16, .ref a_17, .ref a_18, .int i_13, .int i_14, .int i_15, .int i_16, .int i_17, .int i_18, .ref a_19, .int i_19, .ref a_20])), (a_6, .inl (cy 1, 5, .inl (mm_g [i_20, i_21, i_22, i_23, i_24]))), (a_7, .inl (cy 1, 30, .inl (mm_g [i_25, i_26, i_27, i_28, i_29, i_30, i_31, i_32, i_33, i_34, i_35, i_36, i_37, i_38, i_39, i_40, i_41, i_42, i_43, i_44, i_45, i_46, i_47, i_48, i_49, i_50, i_51, i_52, i_53, i_54]))), (a_9, .inl (cy 1, 15, .inl f_0)), (a_10, .inl (cy 1, 1050, .inl f_1)), (a_13, .inl (cy 1, 450, .inl f_2)), (a_15, .inl (cy 1, 7200, .inl f_3)), (a_16, .inl (cy 1, 3, .inl f_4)), (a_17, .inl (cy 1, 3, .inl f_5))]) hS
  refine lv_aload_n hx hb dX12_means_5 rfl (lv_at hl 0 rfl) ?_
  refine lv_iload_n hx hb dX12_means_6 rfl (lv_at hl 1 rfl) ?_
  refine lv_iload_n hx hb dX12_means_7 rfl (lv_at hl 2 rfl) ?_
  refine mm_finir (va_runV (As := [.int i_0, .int i_1]) (rest := []) ⟨hx, hb, hml, hown, hts⟩ (M104_X12_isThen l G cy H.size a_0 i_0 i_1 0 a_1 a_2 a_3 a_4 a_5 i_4 i_5 i_6 i_7 i_8 j_0 i_9 i_10 i_11 i_12 a_6 a_7 a_8 a_9 a_10 a_11 a_12 a_13 a_14 a_15 a_16 a_17 a_18 i_13 i_14 i_15 i_16 i_17 i_18 a_19 i_19 a_20 i_25 i_26 i_27 i_28 i_29 i_30 i_31 i_32 i_33 i_34 i_35 i_36 i_37 i_38 i_39 i_40 i_41 i_42 i_43 i_44 i_45 i_46 i_47 i_48 i_49 i_50 i_51 i_52 i_53 i_54 h5 h6 h7 h8 h9 h10 h11 h12 h13 h14 h15 h16 h17 h18 h19 h20 h21 h22 h23 h24 h25 h26 h27 h28 h29 h30 h31 h32 h33 h34) (cwV 2 hts (mm_gV mm_w678 mm_w679 mm_w680 mm_w5 mm_w681) rfl rfl rfl hd_X12_isThen ⟨by rw [hRf]; exact Nat.le_of_ble_eq_true rfl, by rw [hRl]; exact Nat.le_of_ble_eq_true rfl⟩) (mm_preV hK hZ hS hA hP hD [0, 2] rfl rfl 0 rfl rfl rfl) rfl rfl hl.1 rfl (lv_room (Nat.le_of_ble_eq_true rfl)) dX12_means_8 ⟨by rw [hRc]; exact Nat.le_of_ble_eq_true rfl, by rw [hRs]; exact Nat.le_of_ble_eq_true rfl⟩) hP hD hS hA [0, 2] rfl (fun _ => rfl) ?_
  clear hP hD hS
  clear H locs
  intro v1 _u H locs hw hP hD hS
  rcases hw with rfl | ⟨rfl, w2, w3, w4⟩
  · refine lv_if_eq (tgt := 22) hx hb dX12_means_11 (by decide) (fun c5 => ?_) (fun c5 => ?_)
    · refine lv_bipush (v := (-2)) hx hb dX12_means_22 (by decide) ?_
      subst hAe
      rw [hQ]
      exact W.iret (v := (-2)) hx hb hr (fun t ht hW => ⟨⟨(-2), (f_3, f_4, f_5), rfl, ⟨h38, h39, h40, (mm_wk mm_km2 (by decide))⟩, by rw [ht]; exact hP, hK.warm hW, hD⟩, hS.F ht⟩) hS.2.2 dX12_means_24
    · exact absurd rfl (mm_ne c5)
  · have q6 := mm_ltR (lo := 1) w4 w2 h8 (by decide)
    have q7 : mm_rg i_20 1 601 := mm_tl_3 h43 q6 h0 (by decide)
    refine lv_if_eq (tgt := 22) hx hb dX12_means_11 (by decide) (fun c8 => ?_) (fun c8 => ?_)
    · exact mm_eqN c8.symm mm_k0 mm_k1 (by decide)
    · refine lv_aload_n hx hb dX12_means_14 rfl (lv_at hl 0 rfl) ?_
      refine lv_iload_n hx hb dX12_means_15 rfl (lv_at hl 3 rfl) ?_
      refine mm_finir (va_runV (As := [.int i_2]) (rest := []) ⟨hx, hb, hml, hown, hts⟩ (M101_X12_isWord l G cy H.size a_0 i_2 0 a_1 a_2 a_3 a_4 a_5 i_4 i_5 i_6 i_7 i_8 j_0 i_9 i_10 i_11 i_12 a_6 a_7 a_8 a_9 a_10 a_11 a_12 a_13 a_14 a_15 a_16 a_17 a_18 i_13 i_14 i_15 i_16 i_17 i_18 a_19 i_19 a_20 i_20 i_21 i_22 i_23 i_24 i_25 i_26 i_27 i_28 i_29 i_30 i_31 i_32 i_33 i_34 i_35 i_36 i_37 i_38 i_39 i_40 i_41 i_42 i_43 i_44 i_45 i_46 i_47 i_48 i_49 i_50 i_51 i_52 i_53 i_54 q7 h1 h2 h3 h4 h5 h6 h7 (mm_wk q6 (by decide)) h9 h10 h11 h12 h13 h14 h15 h16 h17 h18 h19 h20 h21 h22 h23 h24 h25 h26 h27 h28 h29 h30 h31 h32 h33 h34 h43 h46 h49 h52) (cwV 1 hts (mm_gV mm_w645 mm_w646 mm_w647 mm_w5 mm_w648) rfl rfl rfl hd_X12_isWord ⟨by rw [hRf]; exact Nat.le_of_ble_eq_true rfl, by rw [hRl]; exact Nat.le_of_ble_eq_true rfl⟩) (mm_preV hK hZ hS hA hP hD [0, 1, 2] rfl rfl 0 rfl rfl rfl) rfl rfl hl.1 rfl (lv_room (Nat.le_of_ble_eq_true rfl)) dX12_means_16 ⟨by rw [hRc]; exact Nat.le_of_ble_eq_true rfl, by rw [hRs]; exact Nat.le_of_ble_eq_true rfl⟩) hP hD hS hA [0, 1, 2] rfl (fun _ => rfl) ?_
      clear hP hD hS
      clear H locs
      intro v9 _u H locs hw hP hD hS
      rcases hw with rfl | ⟨rfl, w10, w11⟩
      · refine lv_if_ne (tgt := 25) hx hb dX12_means_19 (by decide) (fun c12 => ?_) (fun c12 => ?_)
        · exact absurd rfl (mm_ne c12)
        · refine lv_bipush (v := (-2)) hx hb dX12_means_22 (by decide) ?_
          subst hAe
          rw [hQ]
          exact W.iret (v := (-2)) hx hb hr (fun t ht hW => ⟨⟨(-2), (f_3, f_4, f_5), rfl, ⟨h38, h39, h40, (mm_wk mm_km2 (by decide))⟩, by rw [ht]; exact hP, hK.warm hW, hD⟩, hS.F ht⟩) hS.2.2 dX12_means_24
      · refine lv_if_ne (tgt := 25) hx hb dX12_means_19 (by decide) (fun c13 => ?_) (fun c13 => ?_)
        · refine lv_aload_n hx hb dX12_means_25 rfl (lv_at hl 0 rfl) ?_
          refine mm_finv (va_runV (As := []) (rest := []) ⟨hx, hb, hml, hown, hts⟩ (M125_X12_lays l G cy H.size a_0 0 a_1 a_2 a_3 a_4 a_5 i_4 i_5 i_6 i_7 i_8 j_0 i_9 i_10 i_11 i_12 a_6 a_7 a_8 a_9 a_10 a_11 a_12 a_13 a_14 a_15 a_16 a_17 a_18 i_13 i_14 i_15 i_16 i_17 i_18 a_19 i_19 a_20 i_20 i_21 i_22 i_23 i_24 i_25 i_26 i_27 i_28 i_29 i_30 i_31 i_32 i_33 i_34 i_35 i_36 i_37 i_38 i_39 i_40 i_41 i_42 i_43 i_44 i_45 i_46 i_47 i_48 i_49 i_50 i_51 i_52 i_53 i_54 f_0 f_1 f_2 f_3 f_4 f_5 (mm_wk q7 (by decide)) h1 h2 h3 h4 h5 h6 h7 (mm_wk q6 (by decide)) h9 h10 h11 h12 h13 h14 h15 h16 h17 h18 h19 h20 h21 h22 h23 h24 h25 h26 h27 h28 h29 h30 h31 h32 h33 h34 h35 h36 h37 h38 h39 h40 h41 h42 h43 h44 h45 h46 h47 h48 h49 h50 h51 h52) (cwV 0 hts (mm_gV mm_w686 mm_w687 mm_w688 mm_w5 mm_w689) rfl rfl rfl hd_X12_lays ⟨by rw [hRf]; exact Nat.le_of_ble_eq_true rfl, by rw [hRl]; exact Nat.le_of_ble_eq_true rfl⟩) (mm_preV hK hZ hS hA hP hD [0, 1, 2, 3, 4, 5, 6, 7, 8] rfl rfl 0 rfl rfl rfl) rfl rfl hl.1 rfl (lv_room (Nat.le_of_ble_eq_true rfl)) dX12_means_26 ⟨by rw [hRc]; exact Nat.le_of_ble_eq_true rfl, by rw [hRs]; exact Nat.le_of_ble_eq_true rfl⟩) hP hD hS hA (fun u : (Nat → Int32) × (Nat → Int32) × (Nat → Int32) => [(a_0, .inr (12, [.int 0, .ref a_1, .ref a_2, .ref a_3, .ref a_4, .ref a_5, .int i_4, .int i_5, .int i_6, .int i_7, .int i_8, .long j_0, .int i_9, .int i_10, .int i_11, .int i_12, .ref a_6, .ref a_7, .ref a_8, .ref a_9, .ref a_10, .ref a_11, .ref a_12, .ref a_13, .ref a_14, .ref a_15, .ref a_16, .ref a_17, .ref a_18, .int i_13, .int i_14, .int i_15, .int i_16, .int i_17, .int i_18, .ref a_19, .int i_19, .ref a_20])), (a_6, .inl (cy 1, 5, .inl (mm_g [i_20, i_21, i_22, i_23, i_24]))), (a_7, .inl (cy 1, 30, .inl (mm_g [i_25, i_26, i_27, i_28, i_29, i_30, i_31, i_32, i_33, i_34, i_35, i_36, i_37, i_38, i_39, i_40, i_41, i_42, i_43, i_44, i_45, i_46, i_47, i_48, i_49, i_50, i_51, i_52, i_53, i_54]))), (a_9, .inl (cy 1, 15, .inl f_0)), (a_10, .inl (cy 1, 1050, .inl f_1)), (a_13, .inl (cy 1, 450, .inl f_2)), (a_15, .inl (cy 1, 7200, .inl u.1)), (a_16, .inl (cy 1, 3, .inl u.2.1)), (a_17, .inl (cy 1, 3, .inl u.2.2))]) [0, 1, 2, 3, 4, 5, 6, 7, 8] [] (n := 9) (fun _ => rfl) (by decide +kernel) (by decide +kernel) rfl (fun _ => rfl) (wr := []) rfl (fun _ => rfl) (fun _ => @rfl _ ([a_0, a_6, a_7, a_9, a_10, a_13, a_15, a_16, a_17] : List Nat)) ?_
          clear hP hD hS
          clear H locs
          intro u
          obtain ⟨n14, n15, n16⟩ := u
          intro H locs hw (hP : va_P G vwCl [(a_0, .inr (12, [.int 0, .ref a_1, .ref a_2, .ref a_3, .ref a_4, .ref a_5, .int i_4, .int i_5, .int i_6, .int i_7, .int i_8, .long j_0, .int i_9, .int i_10, .int i_11, .int i_12, .ref a_6, .ref a_7, .ref a_8, .ref a_9, .ref a_10, .ref a_11, .ref a_12, .ref a_13, .ref a_14, .ref a_15, .ref a_16, .ref a_17, .ref a_18, .int i_13, .int i_14, .int i_15, .int i_16, .int i_17, .int i_18, .ref a_19, .int i_19, .ref a_20])), (a_6, .inl (cy 1, 5, .inl (mm_g [i_20, i_21, i_22, i_23, i_24]))), (a_7, .inl (cy 1, 30, .inl (mm_g [i_25, i_26, i_27, i_28, i_29, i_30, i_31, i_32, i_33, i_34, i_35, i_36, i_37, i_38, i_39, i_40, i_41, i_42, i_43, i_44, i_45, i_46, i_47, i_48, i_49, i_50, i_51, i_52, i_53, i_54]))), (a_9, .inl (cy 1, 15, .inl f_0)), (a_10, .inl (cy 1, 1050, .inl f_1)), (a_13, .inl (cy 1, 450, .inl f_2)), (a_15, .inl (cy 1, 7200, .inl n14)), (a_16, .inl (cy 1, 3, .inl n15)), (a_17, .inl (cy 1, 3, .inl n16))] H) (hD : va_D A [(a_0, .inr (12, [.int 0, .ref a_1, .ref a_2, .ref a_3, .ref a_4, .ref a_5, .int i_4, .int i_5, .int i_6, .int i_7, .int i_8, .long j_0, .int i_9, .int i_10, .int i_11, .int i_12, .ref a_6, .ref a_7, .ref a_8, .ref a_9, .ref a_10, .ref a_11, .ref a_12, .ref a_13, .ref a_14, .ref a_15, .ref a_16, .ref a_17, .ref a_18, .int i_13, .int i_14, .int i_15, .int i_16, .int i_17, .int i_18, .ref a_19, .int i_19, .ref a_20])), (a_6, .inl (cy 1, 5, .inl (mm_g [i_20, i_21, i_22, i_23, i_24]))), (a_7, .inl (cy 1, 30, .inl (mm_g [i_25, i_26, i_27, i_28, i_29, i_30, i_31, i_32, i_33, i_34, i_35, i_36, i_37, i_38, i_39, i_40, i_41, i_42, i_43, i_44, i_45, i_46, i_47, i_48, i_49, i_50, i_51, i_52, i_53, i_54]))), (a_9, .inl (cy 1, 15, .inl f_0)), (a_10, .inl (cy 1, 1050, .inl f_1)), (a_13, .inl (cy 1, 450, .inl f_2)), (a_15, .inl (cy 1, 7200, .inl n14)), (a_16, .inl (cy 1, 3, .inl n15)), (a_17, .inl (cy 1, 3, .inl n16))]) hS
          obtain ⟨w17, w18, w19, w20, w21⟩ := hw
          replace w20 : mm_laid n15 n16 i_28 := w20
          replace w21 : mm_tab n14 n15 i_27 i_28 := w21
          refine lv_aload_n hx hb dX12_means_29 rfl (lv_at hl 0 rfl) ?_
          refine lv_iload_n hx hb dX12_means_30 rfl (lv_at hl 1 rfl) ?_
          refine lv_iload_n hx hb dX12_means_31 rfl (lv_at hl 2 rfl) ?_
          refine lv_iload_n hx hb dX12_means_32 rfl (lv_at hl 3 rfl) ?_
          refine mm_finir (va_runV (As := [.int i_0, .int i_1, .int i_2]) (rest := []) ⟨hx, hb, hml, hown, hts⟩ (M122_X12_means0 l G cy H.size a_0 i_0 i_1 i_2 0 a_1 a_2 a_3 a_4 a_5 i_4 i_5 i_6 i_7 i_8 j_0 i_9 i_10 i_11 i_12 a_6 a_7 a_8 a_9 a_10 a_11 a_12 a_13 a_14 a_15 a_16 a_17 a_18 i_13 i_14 i_15 i_16 i_17 i_18 a_19 i_19 a_20 n14 n15 w2 (mm_wk w3 (by decide)) w10 w17 w18 (mm_f1_l w20 w4 w2 (by decide))) (cwV 3 hts (mm_gV mm_w713 mm_w714 mm_w715 mm_w5 mm_w716) rfl rfl rfl hd_X12_means0 ⟨by rw [hRf]; exact Nat.le_of_ble_eq_true rfl, by rw [hRl]; exact Nat.le_of_ble_eq_true rfl⟩) (mm_preV hK hZ hS hA hP hD [0, 6, 7] rfl rfl 0 rfl rfl rfl) rfl rfl hl.1 rfl (lv_room (Nat.le_of_ble_eq_true rfl)) dX12_means_33 ⟨by rw [hRc]; exact Nat.le_of_ble_eq_true rfl, by rw [hRs]; exact Nat.le_of_ble_eq_true rfl⟩) hP hD hS hA [0, 6, 7] rfl (fun _ => rfl) ?_
          clear hP hD hS
          clear H locs
          intro v22 _u H locs hw hP hD hS
          obtain ⟨w23, w24⟩ := hw
          subst hAe
          rw [hQ]
          exact W.iret (v := v22) hx hb hr (fun t ht hW => ⟨⟨v22, (n14, n15, n16), rfl, ⟨w17, w18, w19, (mm_wk w23 (by decide))⟩, by rw [ht]; exact hP, hK.warm hW, hD⟩, hS.F ht⟩) hS.2.2 dX12_means_36
        · exact mm_eqN c13.symm mm_k0 mm_k1 (by decide)

set_option maxHeartbeats 4000000 in
set_option maxRecDepth 100000 in
theorem M127_X12_says0 (l : Launch) (G : va_G) (cy : Nat → ClassId) (sz : Nat) (a_0 : Nat) (i_0 : Int32) (i_1 : Int32) (i_2 : Int32) (i_3 : Int32) (a_1 : Nat) (a_2 : Nat) (a_3 : Nat) (a_4 : Nat) (a_5 : Nat) (i_4 : Int32) (i_5 : Int32) (i_6 : Int32) (i_7 : Int32) (i_8 : Int32) (j_0 : Int64) (i_9 : Int32) (i_10 : Int32) (i_11 : Int32) (i_12 : Int32) (a_6 : Nat) (a_7 : Nat) (a_8 : Nat) (a_9 : Nat) (a_10 : Nat) (a_11 : Nat) (a_12 : Nat) (a_13 : Nat) (a_14 : Nat) (a_15 : Nat) (a_16 : Nat) (a_17 : Nat) (a_18 : Nat) (i_13 : Int32) (i_14 : Int32) (i_15 : Int32) (i_16 : Int32) (i_17 : Int32) (i_18 : Int32) (a_19 : Nat) (i_19 : Int32) (a_20 : Nat) (i_20 : Int32) (i_21 : Int32) (i_22 : Int32) (i_23 : Int32) (i_24 : Int32) (i_25 : Int32) (i_26 : Int32) (i_27 : Int32) (i_28 : Int32) (i_29 : Int32) (i_30 : Int32) (i_31 : Int32) (i_32 : Int32) (i_33 : Int32) (i_34 : Int32) (i_35 : Int32) (i_36 : Int32) (i_37 : Int32) (i_38 : Int32) (i_39 : Int32) (i_40 : Int32) (i_41 : Int32) (i_42 : Int32) (i_43 : Int32) (i_44 : Int32) (i_45 : Int32) (i_46 : Int32) (i_47 : Int32) (i_48 : Int32) (i_49 : Int32) (i_50 : Int32) (i_51 : Int32) (i_52 : Int32) (i_53 : Int32) (i_54 : Int32) (f_0 : Nat → Int32) (f_1 : Nat → Int32) (h0 : mm_rg i_0 0 2) (h1 : mm_rg i_1 0 1100000000) (h2 : mm_rg i_2 0 9) (h3 : mm_rg i_20 0 601) (h4 : mm_rg i_21 0 601) (h5 : mm_rg i_22 0 601) (h6 : mm_rg i_23 0 601) (h7 : mm_rg i_24 0 601) (h8 : mm_rg i_25 0 10) (h9 : mm_rg i_26 0 99) (h10 : mm_rg i_27 0 9) (h11 : mm_rg i_28 0 3) (h12 : mm_rg i_29 0 6) (h13 : mm_rg i_30 0 30) (h14 : mm_rg i_31 0 10) (h15 : mm_rg i_32 0 99) (h16 : mm_rg i_33 0 9) (h17 : mm_rg i_34 0 3) (h18 : mm_rg i_35 0 6) (h19 : mm_rg i_36 0 30) (h20 : mm_rg i_37 0 10) (h21 : mm_rg i_38 0 99) (h22 : mm_rg i_39 0 9) (h23 : mm_rg i_40 0 3) (h24 : mm_rg i_41 0 6) (h25 : mm_rg i_42 0 30) (h26 : mm_rg i_43 0 10) (h27 : mm_rg i_44 0 99) (h28 : mm_rg i_45 0 9) (h29 : mm_rg i_46 0 3) (h30 : mm_rg i_47 0 6) (h31 : mm_rg i_48 0 30) (h32 : mm_rg i_49 0 10) (h33 : mm_rg i_50 0 99) (h34 : mm_rg i_51 0 9) (h35 : mm_rg i_52 0 3) (h36 : mm_rg i_53 0 6) (h37 : mm_rg i_54 0 30) (h38 : mm_ar f_0 0 9) (h39 : mm_ar f_1 0 210) (h40 : mm_tl i_20 i_28 i_29) (h41 : mm_tl i_21 i_34 i_35) (h42 : mm_tl i_22 i_40 i_41) (h43 : mm_tl i_23 i_46 i_47) (h44 : mm_f1 f_1 i_0) (h45 : (i_0 : Int32).toInt < (i_28 : Int32).toInt)  : mm_CI l yX12_says0 (mm_ws yX12_says0 cX12_says0 5 (some .int)) ({ frames := 2, cells := 0, slots := 0, locals := 40 } : Room) G cy sz [(a_0, .inr (12, [.int i_3, .ref a_1, .ref a_2, .ref a_3, .ref a_4, .ref a_5, .int i_4, .int i_5, .int i_6, .int i_7, .int i_8, .long j_0, .int i_9, .int i_10, .int i_11, .int i_12, .ref a_6, .ref a_7, .ref a_8, .ref a_9, .ref a_10, .ref a_11, .ref a_12, .ref a_13, .ref a_14, .ref a_15, .ref a_16, .ref a_17, .ref a_18, .int i_13, .int i_14, .int i_15, .int i_16, .int i_17, .int i_18, .ref a_19, .int i_19, .ref a_20])), (a_6, .inl (cy 1, 5, .inl (mm_g [i_20, i_21, i_22, i_23, i_24]))), (a_7, .inl (cy 1, 30, .inl (mm_g [i_25, i_26, i_27, i_28, i_29, i_30, i_31, i_32, i_33, i_34, i_35, i_36, i_37, i_38, i_39, i_40, i_41, i_42, i_43, i_44, i_45, i_46, i_47, i_48, i_49, i_50, i_51, i_52, i_53, i_54]))), (a_15, .inl (cy 1, 7200, .inl f_0)), (a_16, .inl (cy 1, 3, .inl f_1))] [.ref a_0, .int i_0, .int i_1, .int i_2] (fun u : Unit => [(a_0, .inr (12, [.int i_3, .ref a_1, .ref a_2, .ref a_3, .ref a_4, .ref a_5, .int i_4, .int i_5, .int i_6, .int i_7, .int i_8, .long j_0, .int i_9, .int i_10, .int i_11, .int i_12, .ref a_6, .ref a_7, .ref a_8, .ref a_9, .ref a_10, .ref a_11, .ref a_12, .ref a_13, .ref a_14, .ref a_15, .ref a_16, .ref a_17, .ref a_18, .int i_13, .int i_14, .int i_15, .int i_16, .int i_17, .int i_18, .ref a_19, .int i_19, .ref a_20])), (a_6, .inl (cy 1, 5, .inl (mm_g [i_20, i_21, i_22, i_23, i_24]))), (a_7, .inl (cy 1, 30, .inl (mm_g [i_25, i_26, i_27, i_28, i_29, i_30, i_31, i_32, i_33, i_34, i_35, i_36, i_37, i_38, i_39, i_40, i_41, i_42, i_43, i_44, i_45, i_46, i_47, i_48, i_49, i_50, i_51, i_52, i_53, i_54]))), (a_15, .inl (cy 1, 7200, .inl f_0)), (a_16, .inl (cy 1, 3, .inl f_1))]) (fun (r : Int32) (u : Unit) => mm_rg r (-1) 9 ∧ mm_sr f_0 f_1 i_0 i_1 i_2 i_27 r) 0 0 := by
  refine mm_begin (lv := [(0, .ref a_0), (1, .int i_0), (2, .int i_1), (3, .int i_2)]) (by decide) (Nat.le_of_ble_eq_true rfl) rfl ?_
  intro p e s m below meth c A ls R args Q H locs hRe hQ hAe hx hb hr hlocks hml hown hnm hts hsz hA hS hP hK hD hZ hl
  have hRf : R.frames = 2 := by rw [hRe]
  have hRl : R.locals = 40 := by rw [hRe]
  have hRc : R.cells = 0 := by rw [hRe]
  have hRs : R.slots = 0 := by rw [hRe]
  have q1 := mm_ltR (lo := 1) h45 h0 h11 (by decide)
  have q2 : mm_rg i_20 1 601 := mm_tl_3 h40 q1 h3 (by decide)
  refine lv_iconst (v := 0) hx hb dX12_says0_0 (by decide) ?_
  refine lv_istore (lv' := [(4, .int 0), (0, .ref a_0), (1, .int i_0), (2, .int i_1), (3, .int i_2)]) hx hb dX12_says0_1 hl (by decide) rfl ?_
  clear hl
  clear ls
  intro ls hl
  have L3_154 : ∀ (n : Nat) (x3_4_153 : Int32), mm_rg x3_4_153 0 10 → mm_sy f_0 f_1 i_0 i_1 i_2 x3_4_153 → (10 - x3_4_153.toInt).toNat < n → ∀ (H : Heap) (locs : List Loc), va_P G vwCl [(a_0, .inr (12, [.int i_3, .ref a_1, .ref a_2, .ref a_3, .ref a_4, .ref a_5, .int i_4, .int i_5, .int i_6, .int i_7, .int i_8, .long j_0, .int i_9, .int i_10, .int i_11, .int i_12, .ref a_6, .ref a_7, .ref a_8, .ref a_9, .ref a_10, .ref a_11, .ref a_12, .ref a_13, .ref a_14, .ref a_15, .ref a_16, .ref a_17, .ref a_18, .int i_13, .int i_14, .int i_15, .int i_16, .int i_17, .int i_18, .ref a_19, .int i_19, .ref a_20])), (a_6, .inl (cy 1, 5, .inl (mm_g [i_20, i_21, i_22, i_23, i_24]))), (a_7, .inl (cy 1, 30, .inl (mm_g [i_25, i_26, i_27, i_28, i_29, i_30, i_31, i_32, i_33, i_34, i_35, i_36, i_37, i_38, i_39, i_40, i_41, i_42, i_43, i_44, i_45, i_46, i_47, i_48, i_49, i_50, i_51, i_52, i_53, i_54]))), (a_15, .inl (cy 1, 7200, .inl f_0)), (a_16, .inl (cy 1, 3, .inl f_1))] H → va_D A [(a_0, .inr (12, [.int i_3, .ref a_1, .ref a_2, .ref a_3, .ref a_4, .ref a_5, .int i_4, .int i_5, .int i_6, .int i_7, .int i_8, .long j_0, .int i_9, .int i_10, .int i_11, .int i_12, .ref a_6, .ref a_7, .ref a_8, .ref a_9, .ref a_10, .ref a_11, .ref a_12, .ref a_13, .ref a_14, .ref a_15, .ref a_16, .ref a_17, .ref a_18, .int i_13, .int i_14, .int i_15, .int i_16, .int i_17, .int i_18, .ref a_19, .int i_19, .ref a_20])), (a_6, .inl (cy 1, 5, .inl (mm_g [i_20, i_21, i_22, i_23, i_24]))), (a_7, .inl (cy 1, 30, .inl (mm_g [i_25, i_26, i_27, i_28, i_29, i_30, i_31, i_32, i_33, i_34, i_35, i_36, i_37, i_38, i_39, i_40, i_41, i_42, i_43, i_44, i_45, i_46, i_47, i_48, i_49, i_50, i_51, i_52, i_53, i_54]))), (a_15, .inl (cy 1, 7200, .inl f_0)), (a_16, .inl (cy 1, 3, .inl f_1))] → va_S A s.heap H locs → ∀ (ls : Array Slot), lv_has ls 5 [(4, .int x3_4_153), (0, .ref a_0), (1, .int i_0), (2, .int i_1), (3, .int i_2)] → W p l e R s m args below meth c H locs 0 0 Q (F0 m 3 ls []) := by
    intro n
    induction n with
    | zero => intro x3_4_153 rx3_4_153 w154 hm; exact absurd hm (Nat.not_lt_zero _)
    | succ n ih3 =>
      intro x3_4_153 rx3_4_153 w154 hm3 H locs hP hD hS ls hl
      refine lv_iload hx hb dX12_says0_3 (lv_at hl 0 rfl) ?_
      refine lv_aload_n hx hb dX12_says0_5 rfl (lv_at hl 1 rfl) ?_
      refine mm_finir (va_runV (As := []) (rest := [.int x3_4_153]) ⟨hx, hb, hml, hown, hts⟩ (M100_X12_words l G cy H.size a_0 i_3 a_1 a_2 a_3 a_4 a_5 i_4 i_5 i_6 i_7 i_8 j_0 i_9 i_10 i_11 i_12 a_6 a_7 a_8 a_9 a_10 a_11 a_12 a_13 a_14 a_15 a_16 a_17 a_18 i_13 i_14 i_15 i_16 i_17 i_18 a_19 i_19 a_20 i_20 i_21 i_22 i_23 i_24 i_25 i_26 i_27 i_28 i_29 i_30 i_31 i_32 i_33 i_34 i_35 i_36 i_37 i_38 i_39 i_40 i_41 i_42 i_43 i_44 i_45 i_46 i_47 i_48 i_49 i_50 i_51 i_52 i_53 i_54 q2 h4 h5 h6 h7 h8 h9 h10 (mm_wk q1 (by decide)) h12 h13 h14 h15 h16 h17 h18 h19 h20 h21 h22 h23 h24 h25 h26 h27 h28 h29 h30 h31 h32 h33 h34 h35 h36 h37 h40 h41 h42 h43) (cwV 0 hts (mm_gV mm_w649 mm_w650 mm_w651 mm_w5 mm_w652) rfl rfl rfl hd_X12_words ⟨by rw [hRf]; exact Nat.le_of_ble_eq_true rfl, by rw [hRl]; exact Nat.le_of_ble_eq_true rfl⟩) (mm_preV hK hZ hS hA hP hD [0, 1, 2] rfl rfl 0 rfl rfl rfl) rfl rfl hl.1 rfl (lv_room (Nat.le_of_ble_eq_true rfl)) dX12_says0_6 ⟨by rw [hRc]; exact Nat.le_of_ble_eq_true rfl, by rw [hRs]; exact Nat.le_of_ble_eq_true rfl⟩) hP hD hS hA [0, 1, 2] rfl (fun _ => rfl) ?_
      clear hP hD hS
      clear H locs
      intro v156 _u H locs hw hP hD hS
      obtain ⟨w157, w158⟩ := hw
      have t159 : (v156 : Int32).toInt = (i_27 : Int32).toInt + 1 := w158
      refine lv_icmp_ge (tgt := 33) hx hb dX12_says0_9 (by decide) (fun c160 => ?_) (fun c160 => ?_)
      · have q161 := mm_leR (mm_le c160) w157 rx3_4_153
        refine lv_iconst (v := (-1)) hx hb dX12_says0_33 (by decide) ?_
        have w162 : mm_sr f_0 f_1 i_0 i_1 i_2 i_27 (-1) := (mm_sr_n w154 t159 (mm_le c160) h10 (by decide))
        subst hAe
        rw [hQ]
        exact W.iret (v := (-1)) hx hb hr (fun t ht hW => ⟨⟨(-1), (), rfl, ⟨(mm_wk mm_km1 (by decide)), w162⟩, by rw [ht]; exact hP, hK.warm hW, hD⟩, hS.F ht⟩) hS.2.2 dX12_says0_34
      · have q163 := mm_ltL (h := 9) (mm_nle c160) rx3_4_153 w157 (by decide)
        refine lv_aload_n hx hb dX12_says0_12 rfl (lv_at hl 1 rfl) ?_
        refine lv_iload_n hx hb dX12_says0_13 rfl (lv_at hl 2 rfl) ?_
        refine lv_iload_n hx hb dX12_says0_14 rfl (lv_at hl 3 rfl) ?_
        refine lv_iload hx hb dX12_says0_15 (lv_at hl 0 rfl) ?_
        refine mm_finir (va_runV (As := [.int i_0, .int i_1, .int x3_4_153]) (rest := []) ⟨hx, hb, hml, hown, hts⟩ (M122_X12_means0 l G cy H.size a_0 i_0 i_1 x3_4_153 i_3 a_1 a_2 a_3 a_4 a_5 i_4 i_5 i_6 i_7 i_8 j_0 i_9 i_10 i_11 i_12 a_6 a_7 a_8 a_9 a_10 a_11 a_12 a_13 a_14 a_15 a_16 a_17 a_18 i_13 i_14 i_15 i_16 i_17 i_18 a_19 i_19 a_20 f_0 f_1 h0 h1 q163 h38 h39 h44) (cwV 3 hts (mm_gV mm_w713 mm_w714 mm_w715 mm_w5 mm_w716) rfl rfl rfl hd_X12_means0 ⟨by rw [hRf]; exact Nat.le_of_ble_eq_true rfl, by rw [hRl]; exact Nat.le_of_ble_eq_true rfl⟩) (mm_preV hK hZ hS hA hP hD [0, 3, 4] rfl rfl 0 rfl rfl rfl) rfl rfl hl.1 rfl (lv_room (Nat.le_of_ble_eq_true rfl)) dX12_says0_17 ⟨by rw [hRc]; exact Nat.le_of_ble_eq_true rfl, by rw [hRs]; exact Nat.le_of_ble_eq_true rfl⟩) hP hD hS hA [0, 3, 4] rfl (fun _ => rfl) ?_
        clear hP hD hS
        clear H locs
        intro v164 _u H locs hw hP hD hS
        obtain ⟨w165, w166⟩ := hw
        refine lv_iload_n hx hb dX12_says0_20 rfl (lv_at hl 4 rfl) ?_
        refine lv_icmp_ne (tgt := 27) hx hb dX12_says0_21 (by decide) (fun c167 => ?_) (fun c167 => ?_)
        · obtain ⟨v168, ev168⟩ : ∃ y : Int32, y = x3_4_153 + 1 := ⟨_, rfl⟩
          refine lv_iinc (v := v168) (lv' := [(4, .int v168), (0, .ref a_0), (1, .int i_0), (2, .int i_1), (3, .int i_2)]) hx hb dX12_says0_27 hl (k := 0) rfl (by rw [ev168]; rfl) (by decide) rfl ?_
          clear hl
          clear ls
          intro ls hl
          have rv168 : mm_rg v168 1 10 := mm_add ev168 q163 mm_k1 (by decide) (by decide)
          have tv168 := mm_addEc ev168 q163 mm_k1 (by decide) (k := 1) (by decide)
          refine lv_goto (tgt := 3) hx hb dX12_says0_30 (by decide) ?_
          exact ih3 v168 (mm_wk rv168 (by decide)) (mm_sy_s w154 w166 (mm_ne c167) tv168 q163 (by decide)) (mm_mu hm3 tv168 (by decide) (rv168).2 (by decide)) H locs hP hD hS ls (lv_sub hl [0, 1, 2, 3, 4] rfl)
        · refine lv_iload hx hb dX12_says0_24 (lv_at hl 0 rfl) ?_
          have w169 : mm_sr f_0 f_1 i_0 i_1 i_2 i_27 x3_4_153 := (mm_sr_y (by have := t159; have := (mm_nle c160); omega) q163 (by decide))
          subst hAe
          rw [hQ]
          exact W.iret (v := x3_4_153) hx hb hr (fun t ht hW => ⟨⟨x3_4_153, (), rfl, ⟨(mm_wk q163 (by decide)), w169⟩, by rw [ht]; exact hP, hK.warm hW, hD⟩, hS.F ht⟩) hS.2.2 dX12_says0_26
  exact L3_154 _ 0 (mm_wk mm_k0 (by decide)) (mm_sy_0 _ _ _ _ _) (Nat.lt_succ_self _) H locs hP hD hS ls (lv_sub hl [0, 1, 2, 3, 4] rfl)

set_option maxHeartbeats 4000000 in
set_option maxRecDepth 100000 in
theorem M128_X12_says (l : Launch) (G : va_G) (cy : Nat → ClassId) (sz : Nat) (a_0 : Nat) (i_0 : Int32) (i_1 : Int32) (i_2 : Int32) (i_3 : Int32) (a_1 : Nat) (a_2 : Nat) (a_3 : Nat) (a_4 : Nat) (a_5 : Nat) (i_4 : Int32) (i_5 : Int32) (i_6 : Int32) (i_7 : Int32) (i_8 : Int32) (j_0 : Int64) (i_9 : Int32) (i_10 : Int32) (i_11 : Int32) (i_12 : Int32) (a_6 : Nat) (a_7 : Nat) (a_8 : Nat) (a_9 : Nat) (a_10 : Nat) (a_11 : Nat) (a_12 : Nat) (a_13 : Nat) (a_14 : Nat) (a_15 : Nat) (a_16 : Nat) (a_17 : Nat) (a_18 : Nat) (i_13 : Int32) (i_14 : Int32) (i_15 : Int32) (i_16 : Int32) (i_17 : Int32) (i_18 : Int32) (a_19 : Nat) (i_19 : Int32) (a_20 : Nat) (i_20 : Int32) (i_21 : Int32) (i_22 : Int32) (i_23 : Int32) (i_24 : Int32) (i_25 : Int32) (i_26 : Int32) (i_27 : Int32) (i_28 : Int32) (i_29 : Int32) (i_30 : Int32) (i_31 : Int32) (i_32 : Int32) (i_33 : Int32) (i_34 : Int32) (i_35 : Int32) (i_36 : Int32) (i_37 : Int32) (i_38 : Int32) (i_39 : Int32) (i_40 : Int32) (i_41 : Int32) (i_42 : Int32) (i_43 : Int32) (i_44 : Int32) (i_45 : Int32) (i_46 : Int32) (i_47 : Int32) (i_48 : Int32) (i_49 : Int32) (i_50 : Int32) (i_51 : Int32) (i_52 : Int32) (i_53 : Int32) (i_54 : Int32) (f_0 : Nat → Int32) (f_1 : Nat → Int32) (f_2 : Nat → Int32) (f_3 : Nat → Int32) (f_4 : Nat → Int32) (f_5 : Nat → Int32) (h0 : mm_rg i_20 0 601) (h1 : mm_rg i_21 0 601) (h2 : mm_rg i_22 0 601) (h3 : mm_rg i_23 0 601) (h4 : mm_rg i_24 0 601) (h5 : mm_rg i_25 0 10) (h6 : mm_rg i_26 0 99) (h7 : mm_rg i_27 0 9) (h8 : mm_rg i_28 0 3) (h9 : mm_rg i_29 0 6) (h10 : mm_rg i_30 0 30) (h11 : mm_rg i_31 0 10) (h12 : mm_rg i_32 0 99) (h13 : mm_rg i_33 0 9) (h14 : mm_rg i_34 0 3) (h15 : mm_rg i_35 0 6) (h16 : mm_rg i_36 0 30) (h17 : mm_rg i_37 0 10) (h18 : mm_rg i_38 0 99) (h19 : mm_rg i_39 0 9) (h20 : mm_rg i_40 0 3) (h21 : mm_rg i_41 0 6) (h22 : mm_rg i_42 0 30) (h23 : mm_rg i_43 0 10) (h24 : mm_rg i_44 0 99) (h25 : mm_rg i_45 0 9) (h26 : mm_rg i_46 0 3) (h27 : mm_rg i_47 0 6) (h28 : mm_rg i_48 0 30) (h29 : mm_rg i_49 0 10) (h30 : mm_rg i_50 0 99) (h31 : mm_rg i_51 0 9) (h32 : mm_rg i_52 0 3) (h33 : mm_rg i_53 0 6) (h34 : mm_rg i_54 0 30) (h35 : mm_ar f_0 0 7) (h36 : mm_ar f_1 0 9) (h37 : mm_ar f_2 (-1) 99) (h38 : mm_ar f_3 0 9) (h39 : mm_ar f_4 0 210) (h40 : mm_ar f_5 0 210) (h41 : mm_rls f_0 f_1 0 i_27 i_28) (h42 : mm_acs f_2 0 i_27 i_28 i_30) (h43 : mm_tl i_20 i_28 i_29) (h44 : mm_rls f_0 f_1 1 i_33 i_34) (h45 : mm_acs f_2 1 i_33 i_34 i_36) (h46 : mm_tl i_21 i_34 i_35) (h47 : mm_rls f_0 f_1 2 i_39 i_40) (h48 : mm_acs f_2 2 i_39 i_40 i_42) (h49 : mm_tl i_22 i_40 i_41) (h50 : mm_rls f_0 f_1 3 i_45 i_46) (h51 : mm_acs f_2 3 i_45 i_46 i_48) (h52 : mm_tl i_23 i_46 i_47)  : mm_CI l yX12_says (mm_ws yX12_says cX12_says 4 (some .int)) ({ frames := 14, cells := 0, slots := 0, locals := 300 } : Room) G cy sz [(a_0, .inr (12, [.int i_3, .ref a_1, .ref a_2, .ref a_3, .ref a_4, .ref a_5, .int i_4, .int i_5, .int i_6, .int i_7, .int i_8, .long j_0, .int i_9, .int i_10, .int i_11, .int i_12, .ref a_6, .ref a_7, .ref a_8, .ref a_9, .ref a_10, .ref a_11, .ref a_12, .ref a_13, .ref a_14, .ref a_15, .ref a_16, .ref a_17, .ref a_18, .int i_13, .int i_14, .int i_15, .int i_16, .int i_17, .int i_18, .ref a_19, .int i_19, .ref a_20])), (a_6, .inl (cy 1, 5, .inl (mm_g [i_20, i_21, i_22, i_23, i_24]))), (a_7, .inl (cy 1, 30, .inl (mm_g [i_25, i_26, i_27, i_28, i_29, i_30, i_31, i_32, i_33, i_34, i_35, i_36, i_37, i_38, i_39, i_40, i_41, i_42, i_43, i_44, i_45, i_46, i_47, i_48, i_49, i_50, i_51, i_52, i_53, i_54]))), (a_9, .inl (cy 1, 15, .inl f_0)), (a_10, .inl (cy 1, 1050, .inl f_1)), (a_13, .inl (cy 1, 450, .inl f_2)), (a_15, .inl (cy 1, 7200, .inl f_3)), (a_16, .inl (cy 1, 3, .inl f_4)), (a_17, .inl (cy 1, 3, .inl f_5))] [.ref a_0, .int i_0, .int i_1, .int i_2] (fun u : (Nat → Int32) × (Nat → Int32) × (Nat → Int32) => [(a_0, .inr (12, [.int 0, .ref a_1, .ref a_2, .ref a_3, .ref a_4, .ref a_5, .int i_4, .int i_5, .int i_6, .int i_7, .int i_8, .long j_0, .int i_9, .int i_10, .int i_11, .int i_12, .ref a_6, .ref a_7, .ref a_8, .ref a_9, .ref a_10, .ref a_11, .ref a_12, .ref a_13, .ref a_14, .ref a_15, .ref a_16, .ref a_17, .ref a_18, .int i_13, .int i_14, .int i_15, .int i_16, .int i_17, .int i_18, .ref a_19, .int i_19, .ref a_20])), (a_6, .inl (cy 1, 5, .inl (mm_g [i_20, i_21, i_22, i_23, i_24]))), (a_7, .inl (cy 1, 30, .inl (mm_g [i_25, i_26, i_27, i_28, i_29, i_30, i_31, i_32, i_33, i_34, i_35, i_36, i_37, i_38, i_39, i_40, i_41, i_42, i_43, i_44, i_45, i_46, i_47, i_48, i_49, i_50, i_51, i_52, i_53, i_54]))), (a_9, .inl (cy 1, 15, .inl f_0)), (a_10, .inl (cy 1, 1050, .inl f_1)), (a_13, .inl (cy 1, 450, .inl f_2)), (a_15, .inl (cy 1, 7200, .inl u.1)), (a_16, .inl (cy 1, 3, .inl u.2.1)), (a_17, .inl (cy 1, 3, .inl u.2.2))]) (fun (r : Int32) (u : (Nat → Int32) × (Nat → Int32) × (Nat → Int32)) => mm_ar u.1 0 9 ∧ mm_ar u.2.1 0 210 ∧ mm_ar u.2.2 0 210 ∧ mm_rg r (-2) 9) 0 0 := by
  refine mm_begin (lv := [(0, .ref a_0), (1, .int i_0), (2, .int i_1), (3, .int i_2)]) (by decide) (Nat.le_of_ble_eq_true rfl) rfl ?_
  intro p e s m below meth c A ls R args Q H locs hRe hQ hAe hx hb hr hlocks hml hown hnm hts hsz hA hS hP hK hD hZ hl
  have hRf : R.frames = 14 := by rw [hRe]
  have hRl : R.locals = 300 := by rw [hRe]
  have hRc : R.cells = 0 := by rw [hRe]
  have hRs : R.slots = 0 := by rw [hRe]
  refine lv_aload_n hx hb dX12_says_0 rfl (lv_at hl 0 rfl) ?_
  refine lv_iconst (v := 0) hx hb dX12_says_1 (by decide) ?_
  refine va_put (D := G) (ci := 12) (v := .int 0) (ty := tyX12 0) (C := RX12) (T := TX12) (N := 38) hx hb hts (mm_i inlX12) tyX12 tyX12_ok nmX12 hown hK.1 hP hD hS 0 rfl rfl 0 (by decide) (mm_h hts mm_w177) (fun _ h9 => h9) rfl (tyX12_ok 0 (by decide)) rfl rfl (Nat.le_of_ble_eq_true rfl) dX12_says_2 ?_
  clear hP hD hS
  clear H locs
  intro H locs (hP : va_P G vwCl [(a_0, .inr (12, [.int 0, .ref a_1, .ref a_2, .ref a_3, .ref a_4, .ref a_5, .int i_4, .int i_5, .int i_6, .int i_7, .int i_8, .long j_0, .int i_9, .int i_10, .int i_11, .int i_12, .ref a_6, .ref a_7, .ref a_8, .ref a_9, .ref a_10, .ref a_11, .ref a_12, .ref a_13, .ref a_14, .ref a_15, .ref a_16, .ref a_17, .ref a_18, .int i_13, .int i_14, .int i_15, .int i_16, .int i_17, .int i_18, .ref a_19, .int i_19, .ref a_20])), (a_6, .inl (cy 1, 5, .inl (mm_g [i_20, i_21, i_22, i_23, i_24]))), (a_7, .inl (cy 1, 30, .inl (mm_g [i_25, i_26, i_27, i_28, i_29, i_30, i_31, i_32, i_33, i_34, i_35, i_36, i_37, i_38, i_39, i_40, i_41, i_42, i_43, i_44, i_45, i_46, i_47, i_48, i_49, i_50, i_51, i_52, i_53, i_54]))), (a_9, .inl (cy 1, 15, .inl f_0)), (a_10, .inl (cy 1, 1050, .inl f_1)), (a_13, .inl (cy 1, 450, .inl f_2)), (a_15, .inl (cy 1, 7200, .inl f_3)), (a_16, .inl (cy 1, 3, .inl f_4)), (a_17, .inl (cy 1, 3, .inl f_5))] H) (hD : va_D A [(a_0, .inr (12, [.int 0, .ref a_1, .ref a_2, .ref a_3, .ref a_4, .ref a_5, .int i_4, .int i_5, .int i_6, .int i_7, .int i_8, .long j_0, .int i_9, .int i_10, .int i_11, .int i_12, .ref a_6, .ref a_7, .ref a_8, .ref a_9, .ref a_10, .ref a_11, .ref a_12, .ref a_13, .ref a_14, .ref a_15, .ref a_16, .ref a_17, .ref a_18, .int i_13, .int i_14, .int i_15, .int i_16, .int i_17, .int i_18, .ref a_19, .int i_19, .ref a_20])), (a_6, .inl (cy 1, 5, .inl (mm_g [i_20, i_21, i_22, i_23, i_24]))), (a_7, .inl (cy 1, 30, .inl (mm_g [i_25, i_26, i_27, i_28, i_29, i_30, i_31, i_32, i_33, i_34, i_35, i_36, i_37, i_38, i_39, i_40, i_41, i_42, i_43, i_44, i_45, i_46, i_47, i_48, i_49, i_50, i_51, i_52, i_53, i_54]))), (a_9, .inl (cy 1, 15, .inl f_0)), (a_10, .inl (cy 1, 1050, .inl f_1)), (a_13, .inl (cy 1, 450, .inl f_2)), (a_15, .inl (cy 1, 7200, .inl f_3)), (a_16, .inl (cy 1, 3, .inl f_4)), (a_17, .inl (cy 1, 3, .inl f_5))]) hS
  refine lv_aload_n hx hb dX12_says_5 rfl (lv_at hl 0 rfl) ?_
  refine lv_iload_n hx hb dX12_says_6 rfl (lv_at hl 1 rfl) ?_
  refine lv_iload_n hx hb dX12_says_7 rfl (lv_at hl 2 rfl) ?_
  refine mm_finir (va_runV (As := [.int i_0, .int i_1]) (rest := []) ⟨hx, hb, hml, hown, hts⟩ (M104_X12_isThen l G cy H.size a_0 i_0 i_1 0 a_1 a_2 a_3 a_4 a_5 i_4 i_5 i_6 i_7 i_8 j_0 i_9 i_10 i_11 i_12 a_6 a_7 a_8 a_9 a_10 a_11 a_12 a_13 a_14 a_15 a_16 a_17 a_18 i_13 i_14 i_15 i_16 i_17 i_18 a_19 i_19 a_20 i_25 i_26 i_27 i_28 i_29 i_30 i_31 i_32 i_33 i_34 i_35 i_36 i_37 i_38 i_39 i_40 i_41 i_42 i_43 i_44 i_45 i_46 i_47 i_48 i_49 i_50 i_51 i_52 i_53 i_54 h5 h6 h7 h8 h9 h10 h11 h12 h13 h14 h15 h16 h17 h18 h19 h20 h21 h22 h23 h24 h25 h26 h27 h28 h29 h30 h31 h32 h33 h34) (cwV 2 hts (mm_gV mm_w678 mm_w679 mm_w680 mm_w5 mm_w681) rfl rfl rfl hd_X12_isThen ⟨by rw [hRf]; exact Nat.le_of_ble_eq_true rfl, by rw [hRl]; exact Nat.le_of_ble_eq_true rfl⟩) (mm_preV hK hZ hS hA hP hD [0, 2] rfl rfl 0 rfl rfl rfl) rfl rfl hl.1 rfl (lv_room (Nat.le_of_ble_eq_true rfl)) dX12_says_8 ⟨by rw [hRc]; exact Nat.le_of_ble_eq_true rfl, by rw [hRs]; exact Nat.le_of_ble_eq_true rfl⟩) hP hD hS hA [0, 2] rfl (fun _ => rfl) ?_
  clear hP hD hS
  clear H locs
  intro v1 _u H locs hw hP hD hS
  rcases hw with rfl | ⟨rfl, w2, w3, w4⟩
  · refine lv_if_eq (tgt := 22) hx hb dX12_says_11 (by decide) (fun c5 => ?_) (fun c5 => ?_)
    · refine lv_bipush (v := (-2)) hx hb dX12_says_22 (by decide) ?_
      subst hAe
      rw [hQ]
      exact W.iret (v := (-2)) hx hb hr (fun t ht hW => ⟨⟨(-2), (f_3, f_4, f_5), rfl, ⟨h38, h39, h40, (mm_wk mm_km2 (by decide))⟩, by rw [ht]; exact hP, hK.warm hW, hD⟩, hS.F ht⟩) hS.2.2 dX12_says_24
    · exact absurd rfl (mm_ne c5)
  · have q6 := mm_ltR (lo := 1) w4 w2 h8 (by decide)
    have q7 : mm_rg i_20 1 601 := mm_tl_3 h43 q6 h0 (by decide)
    refine lv_if_eq (tgt := 22) hx hb dX12_says_11 (by decide) (fun c8 => ?_) (fun c8 => ?_)
    · exact mm_eqN c8.symm mm_k0 mm_k1 (by decide)
    · refine lv_aload_n hx hb dX12_says_14 rfl (lv_at hl 0 rfl) ?_
      refine lv_iload_n hx hb dX12_says_15 rfl (lv_at hl 3 rfl) ?_
      refine mm_finir (va_runV (As := [.int i_2]) (rest := []) ⟨hx, hb, hml, hown, hts⟩ (M101_X12_isWord l G cy H.size a_0 i_2 0 a_1 a_2 a_3 a_4 a_5 i_4 i_5 i_6 i_7 i_8 j_0 i_9 i_10 i_11 i_12 a_6 a_7 a_8 a_9 a_10 a_11 a_12 a_13 a_14 a_15 a_16 a_17 a_18 i_13 i_14 i_15 i_16 i_17 i_18 a_19 i_19 a_20 i_20 i_21 i_22 i_23 i_24 i_25 i_26 i_27 i_28 i_29 i_30 i_31 i_32 i_33 i_34 i_35 i_36 i_37 i_38 i_39 i_40 i_41 i_42 i_43 i_44 i_45 i_46 i_47 i_48 i_49 i_50 i_51 i_52 i_53 i_54 q7 h1 h2 h3 h4 h5 h6 h7 (mm_wk q6 (by decide)) h9 h10 h11 h12 h13 h14 h15 h16 h17 h18 h19 h20 h21 h22 h23 h24 h25 h26 h27 h28 h29 h30 h31 h32 h33 h34 h43 h46 h49 h52) (cwV 1 hts (mm_gV mm_w645 mm_w646 mm_w647 mm_w5 mm_w648) rfl rfl rfl hd_X12_isWord ⟨by rw [hRf]; exact Nat.le_of_ble_eq_true rfl, by rw [hRl]; exact Nat.le_of_ble_eq_true rfl⟩) (mm_preV hK hZ hS hA hP hD [0, 1, 2] rfl rfl 0 rfl rfl rfl) rfl rfl hl.1 rfl (lv_room (Nat.le_of_ble_eq_true rfl)) dX12_says_16 ⟨by rw [hRc]; exact Nat.le_of_ble_eq_true rfl, by rw [hRs]; exact Nat.le_of_ble_eq_true rfl⟩) hP hD hS hA [0, 1, 2] rfl (fun _ => rfl) ?_
      clear hP hD hS
      clear H locs
      intro v9 _u H locs hw hP hD hS
      rcases hw with rfl | ⟨rfl, w10, w11⟩
      · refine lv_if_ne (tgt := 25) hx hb dX12_says_19 (by decide) (fun c12 => ?_) (fun c12 => ?_)
        · exact absurd rfl (mm_ne c12)
        · refine lv_bipush (v := (-2)) hx hb dX12_says_22 (by decide) ?_
          subst hAe
          rw [hQ]
          exact W.iret (v := (-2)) hx hb hr (fun t ht hW => ⟨⟨(-2), (f_3, f_4, f_5), rfl, ⟨h38, h39, h40, (mm_wk mm_km2 (by decide))⟩, by rw [ht]; exact hP, hK.warm hW, hD⟩, hS.F ht⟩) hS.2.2 dX12_says_24
      · refine lv_if_ne (tgt := 25) hx hb dX12_says_19 (by decide) (fun c13 => ?_) (fun c13 => ?_)
        · refine lv_aload_n hx hb dX12_says_25 rfl (lv_at hl 0 rfl) ?_
          refine mm_finv (va_runV (As := []) (rest := []) ⟨hx, hb, hml, hown, hts⟩ (M125_X12_lays l G cy H.size a_0 0 a_1 a_2 a_3 a_4 a_5 i_4 i_5 i_6 i_7 i_8 j_0 i_9 i_10 i_11 i_12 a_6 a_7 a_8 a_9 a_10 a_11 a_12 a_13 a_14 a_15 a_16 a_17 a_18 i_13 i_14 i_15 i_16 i_17 i_18 a_19 i_19 a_20 i_20 i_21 i_22 i_23 i_24 i_25 i_26 i_27 i_28 i_29 i_30 i_31 i_32 i_33 i_34 i_35 i_36 i_37 i_38 i_39 i_40 i_41 i_42 i_43 i_44 i_45 i_46 i_47 i_48 i_49 i_50 i_51 i_52 i_53 i_54 f_0 f_1 f_2 f_3 f_4 f_5 (mm_wk q7 (by decide)) h1 h2 h3 h4 h5 h6 h7 (mm_wk q6 (by decide)) h9 h10 h11 h12 h13 h14 h15 h16 h17 h18 h19 h20 h21 h22 h23 h24 h25 h26 h27 h28 h29 h30 h31 h32 h33 h34 h35 h36 h37 h38 h39 h40 h41 h42 h43 h44 h45 h46 h47 h48 h49 h50 h51 h52) (cwV 0 hts (mm_gV mm_w686 mm_w687 mm_w688 mm_w5 mm_w689) rfl rfl rfl hd_X12_lays ⟨by rw [hRf]; exact Nat.le_of_ble_eq_true rfl, by rw [hRl]; exact Nat.le_of_ble_eq_true rfl⟩) (mm_preV hK hZ hS hA hP hD [0, 1, 2, 3, 4, 5, 6, 7, 8] rfl rfl 0 rfl rfl rfl) rfl rfl hl.1 rfl (lv_room (Nat.le_of_ble_eq_true rfl)) dX12_says_26 ⟨by rw [hRc]; exact Nat.le_of_ble_eq_true rfl, by rw [hRs]; exact Nat.le_of_ble_eq_true rfl⟩) hP hD hS hA (fun u : (Nat → Int32) × (Nat → Int32) × (Nat → Int32) => [(a_0, .inr (12, [.int 0, .ref a_1, .ref a_2, .ref a_3, .ref a_4, .ref a_5, .int i_4, .int i_5, .int i_6, .int i_7, .int i_8, .long j_0, .int i_9, .int i_10, .int i_11, .int i_12, .ref a_6, .ref a_7, .ref a_8, .ref a_9, .ref a_10, .ref a_11, .ref a_12, .ref a_13, .ref a_14, .ref a_15, .ref a_16, .ref a_17, .ref a_18, .int i_13, .int i_14, .int i_15, .int i_16, .int i_17, .int i_18, .ref a_19, .int i_19, .ref a_20])), (a_6, .inl (cy 1, 5, .inl (mm_g [i_20, i_21, i_22, i_23, i_24]))), (a_7, .inl (cy 1, 30, .inl (mm_g [i_25, i_26, i_27, i_28, i_29, i_30, i_31, i_32, i_33, i_34, i_35, i_36, i_37, i_38, i_39, i_40, i_41, i_42, i_43, i_44, i_45, i_46, i_47, i_48, i_49, i_50, i_51, i_52, i_53, i_54]))), (a_9, .inl (cy 1, 15, .inl f_0)), (a_10, .inl (cy 1, 1050, .inl f_1)), (a_13, .inl (cy 1, 450, .inl f_2)), (a_15, .inl (cy 1, 7200, .inl u.1)), (a_16, .inl (cy 1, 3, .inl u.2.1)), (a_17, .inl (cy 1, 3, .inl u.2.2))]) [0, 1, 2, 3, 4, 5, 6, 7, 8] [] (n := 9) (fun _ => rfl) (by decide +kernel) (by decide +kernel) rfl (fun _ => rfl) (wr := []) rfl (fun _ => rfl) (fun _ => @rfl _ ([a_0, a_6, a_7, a_9, a_10, a_13, a_15, a_16, a_17] : List Nat)) ?_
          clear hP hD hS
          clear H locs
          intro u
          obtain ⟨n14, n15, n16⟩ := u
          intro H locs hw (hP : va_P G vwCl [(a_0, .inr (12, [.int 0, .ref a_1, .ref a_2, .ref a_3, .ref a_4, .ref a_5, .int i_4, .int i_5, .int i_6, .int i_7, .int i_8, .long j_0, .int i_9, .int i_10, .int i_11, .int i_12, .ref a_6, .ref a_7, .ref a_8, .ref a_9, .ref a_10, .ref a_11, .ref a_12, .ref a_13, .ref a_14, .ref a_15, .ref a_16, .ref a_17, .ref a_18, .int i_13, .int i_14, .int i_15, .int i_16, .int i_17, .int i_18, .ref a_19, .int i_19, .ref a_20])), (a_6, .inl (cy 1, 5, .inl (mm_g [i_20, i_21, i_22, i_23, i_24]))), (a_7, .inl (cy 1, 30, .inl (mm_g [i_25, i_26, i_27, i_28, i_29, i_30, i_31, i_32, i_33, i_34, i_35, i_36, i_37, i_38, i_39, i_40, i_41, i_42, i_43, i_44, i_45, i_46, i_47, i_48, i_49, i_50, i_51, i_52, i_53, i_54]))), (a_9, .inl (cy 1, 15, .inl f_0)), (a_10, .inl (cy 1, 1050, .inl f_1)), (a_13, .inl (cy 1, 450, .inl f_2)), (a_15, .inl (cy 1, 7200, .inl n14)), (a_16, .inl (cy 1, 3, .inl n15)), (a_17, .inl (cy 1, 3, .inl n16))] H) (hD : va_D A [(a_0, .inr (12, [.int 0, .ref a_1, .ref a_2, .ref a_3, .ref a_4, .ref a_5, .int i_4, .int i_5, .int i_6, .int i_7, .int i_8, .long j_0, .int i_9, .int i_10, .int i_11, .int i_12, .ref a_6, .ref a_7, .ref a_8, .ref a_9, .ref a_10, .ref a_11, .ref a_12, .ref a_13, .ref a_14, .ref a_15, .ref a_16, .ref a_17, .ref a_18, .int i_13, .int i_14, .int i_15, .int i_16, .int i_17, .int i_18, .ref a_19, .int i_19, .ref a_20])), (a_6, .inl (cy 1, 5, .inl (mm_g [i_20, i_21, i_22, i_23, i_24]))), (a_7, .inl (cy 1, 30, .inl (mm_g [i_25, i_26, i_27, i_28, i_29, i_30, i_31, i_32, i_33, i_34, i_35, i_36, i_37, i_38, i_39, i_40, i_41, i_42, i_43, i_44, i_45, i_46, i_47, i_48, i_49, i_50, i_51, i_52, i_53, i_54]))), (a_9, .inl (cy 1, 15, .inl f_0)), (a_10, .inl (cy 1, 1050, .inl f_1)), (a_13, .inl (cy 1, 450, .inl f_2)), (a_15, .inl (cy 1, 7200, .inl n14)), (a_16, .inl (cy 1, 3, .inl n15)), (a_17, .inl (cy 1, 3, .inl n16))]) hS
          obtain ⟨w17, w18, w19, w20, w21⟩ := hw
          replace w20 : mm_laid n15 n16 i_28 := w20
          replace w21 : mm_tab n14 n15 i_27 i_28 := w21
          refine lv_aload_n hx hb dX12_says_29 rfl (lv_at hl 0 rfl) ?_
          refine lv_iload_n hx hb dX12_says_30 rfl (lv_at hl 1 rfl) ?_
          refine lv_iload_n hx hb dX12_says_31 rfl (lv_at hl 2 rfl) ?_
          refine lv_iload_n hx hb dX12_says_32 rfl (lv_at hl 3 rfl) ?_
          refine mm_finir (va_runV (As := [.int i_0, .int i_1, .int i_2]) (rest := []) ⟨hx, hb, hml, hown, hts⟩ (M127_X12_says0 l G cy H.size a_0 i_0 i_1 i_2 0 a_1 a_2 a_3 a_4 a_5 i_4 i_5 i_6 i_7 i_8 j_0 i_9 i_10 i_11 i_12 a_6 a_7 a_8 a_9 a_10 a_11 a_12 a_13 a_14 a_15 a_16 a_17 a_18 i_13 i_14 i_15 i_16 i_17 i_18 a_19 i_19 a_20 i_20 i_21 i_22 i_23 i_24 i_25 i_26 i_27 i_28 i_29 i_30 i_31 i_32 i_33 i_34 i_35 i_36 i_37 i_38 i_39 i_40 i_41 i_42 i_43 i_44 i_45 i_46 i_47 i_48 i_49 i_50 i_51 i_52 i_53 i_54 n14 n15 w2 (mm_wk w3 (by decide)) w10 (mm_wk q7 (by decide)) h1 h2 h3 h4 h5 h6 h7 (mm_wk q6 (by decide)) h9 h10 h11 h12 h13 h14 h15 h16 h17 h18 h19 h20 h21 h22 h23 h24 h25 h26 h27 h28 h29 h30 h31 h32 h33 h34 w17 w18 h43 h46 h49 h52 (mm_f1_l w20 w4 w2 (by decide)) w4) (cwV 3 hts (mm_gV mm_w735 mm_w736 mm_w737 mm_w5 mm_w738) rfl rfl rfl hd_X12_says0 ⟨by rw [hRf]; exact Nat.le_of_ble_eq_true rfl, by rw [hRl]; exact Nat.le_of_ble_eq_true rfl⟩) (mm_preV hK hZ hS hA hP hD [0, 1, 2, 6, 7] rfl rfl 0 rfl rfl rfl) rfl rfl hl.1 rfl (lv_room (Nat.le_of_ble_eq_true rfl)) dX12_says_33 ⟨by rw [hRc]; exact Nat.le_of_ble_eq_true rfl, by rw [hRs]; exact Nat.le_of_ble_eq_true rfl⟩) hP hD hS hA [0, 1, 2, 6, 7] rfl (fun _ => rfl) ?_
          clear hP hD hS
          clear H locs
          intro v22 _u H locs hw hP hD hS
          obtain ⟨w23, w24⟩ := hw
          subst hAe
          rw [hQ]
          exact W.iret (v := v22) hx hb hr (fun t ht hW => ⟨⟨v22, (n14, n15, n16), rfl, ⟨w17, w18, w19, (mm_wk w23 (by decide))⟩, by rw [ht]; exact hP, hK.warm hW, hD⟩, hS.F ht⟩) hS.2.2 dX12_says_36
        · exact mm_eqN c13.symm mm_k0 mm_k1 (by decide)

set_option maxHeartbeats 4000000 in
set_option maxRecDepth 100000 in
theorem M129_X12_round (l : Launch) (G : va_G) (cy : Nat → ClassId) (sz : Nat) (a_0 : Nat) (i_0 : Int32) (i_1 : Int32) (a_1 : Nat) (a_2 : Nat) (a_3 : Nat) (a_4 : Nat) (a_5 : Nat) (i_2 : Int32) (i_3 : Int32) (i_4 : Int32) (i_5 : Int32) (i_6 : Int32) (j_0 : Int64) (i_7 : Int32) (i_8 : Int32) (i_9 : Int32) (i_10 : Int32) (a_6 : Nat) (a_7 : Nat) (a_8 : Nat) (a_9 : Nat) (a_10 : Nat) (a_11 : Nat) (a_12 : Nat) (a_13 : Nat) (a_14 : Nat) (a_15 : Nat) (a_16 : Nat) (a_17 : Nat) (a_18 : Nat) (i_11 : Int32) (i_12 : Int32) (i_13 : Int32) (i_14 : Int32) (i_15 : Int32) (i_16 : Int32) (a_19 : Nat) (i_17 : Int32) (a_20 : Nat) (i_18 : Int32) (i_19 : Int32) (i_20 : Int32) (i_21 : Int32) (i_22 : Int32) (i_23 : Int32) (i_24 : Int32) (i_25 : Int32) (i_26 : Int32) (i_27 : Int32) (i_28 : Int32) (i_29 : Int32) (i_30 : Int32) (i_31 : Int32) (i_32 : Int32) (i_33 : Int32) (i_34 : Int32) (i_35 : Int32) (i_36 : Int32) (i_37 : Int32) (i_38 : Int32) (i_39 : Int32) (i_40 : Int32) (i_41 : Int32) (i_42 : Int32) (i_43 : Int32) (i_44 : Int32) (i_45 : Int32) (i_46 : Int32) (i_47 : Int32) (i_48 : Int32) (i_49 : Int32) (i_50 : Int32) (i_51 : Int32) (i_52 : Int32) (f_0 : Nat → Int32) (f_1 : Nat → Int32) (f_2 : Nat → Int32) (f_3 : Nat → Int32) (f_4 : Nat → Int32) (f_5 : Nat → Int32) (h0 : mm_rg i_18 0 601) (h1 : mm_rg i_19 0 601) (h2 : mm_rg i_20 0 601) (h3 : mm_rg i_21 0 601) (h4 : mm_rg i_22 0 601) (h5 : mm_rg i_23 0 10) (h6 : mm_rg i_24 0 99) (h7 : mm_rg i_25 0 9) (h8 : mm_rg i_26 0 3) (h9 : mm_rg i_27 0 6) (h10 : mm_rg i_28 0 30) (h11 : mm_rg i_29 0 10) (h12 : mm_rg i_30 0 99) (h13 : mm_rg i_31 0 9) (h14 : mm_rg i_32 0 3) (h15 : mm_rg i_33 0 6) (h16 : mm_rg i_34 0 30) (h17 : mm_rg i_35 0 10) (h18 : mm_rg i_36 0 99) (h19 : mm_rg i_37 0 9) (h20 : mm_rg i_38 0 3) (h21 : mm_rg i_39 0 6) (h22 : mm_rg i_40 0 30) (h23 : mm_rg i_41 0 10) (h24 : mm_rg i_42 0 99) (h25 : mm_rg i_43 0 9) (h26 : mm_rg i_44 0 3) (h27 : mm_rg i_45 0 6) (h28 : mm_rg i_46 0 30) (h29 : mm_rg i_47 0 10) (h30 : mm_rg i_48 0 99) (h31 : mm_rg i_49 0 9) (h32 : mm_rg i_50 0 3) (h33 : mm_rg i_51 0 6) (h34 : mm_rg i_52 0 30) (h35 : mm_ar f_0 0 7) (h36 : mm_ar f_1 0 9) (h37 : mm_ar f_2 (-1) 99) (h38 : mm_ar f_3 0 9) (h39 : mm_ar f_4 0 210) (h40 : mm_ar f_5 0 210) (h41 : mm_rls f_0 f_1 0 i_25 i_26) (h42 : mm_acs f_2 0 i_25 i_26 i_28) (h43 : mm_tl i_18 i_26 i_27) (h44 : mm_rls f_0 f_1 1 i_31 i_32) (h45 : mm_acs f_2 1 i_31 i_32 i_34) (h46 : mm_tl i_19 i_32 i_33) (h47 : mm_rls f_0 f_1 2 i_37 i_38) (h48 : mm_acs f_2 2 i_37 i_38 i_40) (h49 : mm_tl i_20 i_38 i_39) (h50 : mm_rls f_0 f_1 3 i_43 i_44) (h51 : mm_acs f_2 3 i_43 i_44 i_46) (h52 : mm_tl i_21 i_44 i_45)  : mm_CI l yX12_round (mm_ws yX12_round cX12_round 2 (some .int)) ({ frames := 14, cells := 0, slots := 0, locals := 300 } : Room) G cy sz [(a_0, .inr (12, [.int i_1, .ref a_1, .ref a_2, .ref a_3, .ref a_4, .ref a_5, .int i_2, .int i_3, .int i_4, .int i_5, .int i_6, .long j_0, .int i_7, .int i_8, .int i_9, .int i_10, .ref a_6, .ref a_7, .ref a_8, .ref a_9, .ref a_10, .ref a_11, .ref a_12, .ref a_13, .ref a_14, .ref a_15, .ref a_16, .ref a_17, .ref a_18, .int i_11, .int i_12, .int i_13, .int i_14, .int i_15, .int i_16, .ref a_19, .int i_17, .ref a_20])), (a_6, .inl (cy 1, 5, .inl (mm_g [i_18, i_19, i_20, i_21, i_22]))), (a_7, .inl (cy 1, 30, .inl (mm_g [i_23, i_24, i_25, i_26, i_27, i_28, i_29, i_30, i_31, i_32, i_33, i_34, i_35, i_36, i_37, i_38, i_39, i_40, i_41, i_42, i_43, i_44, i_45, i_46, i_47, i_48, i_49, i_50, i_51, i_52]))), (a_9, .inl (cy 1, 15, .inl f_0)), (a_10, .inl (cy 1, 1050, .inl f_1)), (a_13, .inl (cy 1, 450, .inl f_2)), (a_15, .inl (cy 1, 7200, .inl f_3)), (a_16, .inl (cy 1, 3, .inl f_4)), (a_17, .inl (cy 1, 3, .inl f_5))] [.ref a_0, .int i_0] (fun u : (Nat → Int32) × (Nat → Int32) × (Nat → Int32) => [(a_0, .inr (12, [.int 0, .ref a_1, .ref a_2, .ref a_3, .ref a_4, .ref a_5, .int i_2, .int i_3, .int i_4, .int i_5, .int i_6, .long j_0, .int i_7, .int i_8, .int i_9, .int i_10, .ref a_6, .ref a_7, .ref a_8, .ref a_9, .ref a_10, .ref a_11, .ref a_12, .ref a_13, .ref a_14, .ref a_15, .ref a_16, .ref a_17, .ref a_18, .int i_11, .int i_12, .int i_13, .int i_14, .int i_15, .int i_16, .ref a_19, .int i_17, .ref a_20])), (a_6, .inl (cy 1, 5, .inl (mm_g [i_18, i_19, i_20, i_21, i_22]))), (a_7, .inl (cy 1, 30, .inl (mm_g [i_23, i_24, i_25, i_26, i_27, i_28, i_29, i_30, i_31, i_32, i_33, i_34, i_35, i_36, i_37, i_38, i_39, i_40, i_41, i_42, i_43, i_44, i_45, i_46, i_47, i_48, i_49, i_50, i_51, i_52]))), (a_9, .inl (cy 1, 15, .inl f_0)), (a_10, .inl (cy 1, 1050, .inl f_1)), (a_13, .inl (cy 1, 450, .inl f_2)), (a_15, .inl (cy 1, 7200, .inl u.1)), (a_16, .inl (cy 1, 3, .inl u.2.1)), (a_17, .inl (cy 1, 3, .inl u.2.2))]) (fun (r : Int32) (u : (Nat → Int32) × (Nat → Int32) × (Nat → Int32)) => mm_ar u.1 0 9 ∧ mm_ar u.2.1 0 210 ∧ mm_ar u.2.2 0 210 ∧ mm_rg r (-2) 210) 0 0 := by
  refine mm_begin (lv := [(0, .ref a_0), (1, .int i_0)]) (by decide) (Nat.le_of_ble_eq_true rfl) rfl ?_
  intro p e s m below meth c A ls R args Q H locs hRe hQ hAe hx hb hr hlocks hml hown hnm hts hsz hA hS hP hK hD hZ hl
  have hRf : R.frames = 14 := by rw [hRe]
  have hRl : R.locals = 300 := by rw [hRe]
  have hRc : R.cells = 0 := by rw [hRe]
  have hRs : R.slots = 0 := by rw [hRe]
  refine lv_aload_n hx hb dX12_round_0 rfl (lv_at hl 0 rfl) ?_
  refine lv_iconst (v := 0) hx hb dX12_round_1 (by decide) ?_
  refine va_put (D := G) (ci := 12) (v := .int 0) (ty := tyX12 0) (C := RX12) (T := TX12) (N := 38) hx hb hts (mm_i inlX12) tyX12 tyX12_ok nmX12 hown hK.1 hP hD hS 0 rfl rfl 0 (by decide) (mm_h hts mm_w177) (fun _ h9 => h9) rfl (tyX12_ok 0 (by decide)) rfl rfl (Nat.le_of_ble_eq_true rfl) dX12_round_2 ?_
  clear hP hD hS
  clear H locs
  intro H locs (hP : va_P G vwCl [(a_0, .inr (12, [.int 0, .ref a_1, .ref a_2, .ref a_3, .ref a_4, .ref a_5, .int i_2, .int i_3, .int i_4, .int i_5, .int i_6, .long j_0, .int i_7, .int i_8, .int i_9, .int i_10, .ref a_6, .ref a_7, .ref a_8, .ref a_9, .ref a_10, .ref a_11, .ref a_12, .ref a_13, .ref a_14, .ref a_15, .ref a_16, .ref a_17, .ref a_18, .int i_11, .int i_12, .int i_13, .int i_14, .int i_15, .int i_16, .ref a_19, .int i_17, .ref a_20])), (a_6, .inl (cy 1, 5, .inl (mm_g [i_18, i_19, i_20, i_21, i_22]))), (a_7, .inl (cy 1, 30, .inl (mm_g [i_23, i_24, i_25, i_26, i_27, i_28, i_29, i_30, i_31, i_32, i_33, i_34, i_35, i_36, i_37, i_38, i_39, i_40, i_41, i_42, i_43, i_44, i_45, i_46, i_47, i_48, i_49, i_50, i_51, i_52]))), (a_9, .inl (cy 1, 15, .inl f_0)), (a_10, .inl (cy 1, 1050, .inl f_1)), (a_13, .inl (cy 1, 450, .inl f_2)), (a_15, .inl (cy 1, 7200, .inl f_3)), (a_16, .inl (cy 1, 3, .inl f_4)), (a_17, .inl (cy 1, 3, .inl f_5))] H) (hD : va_D A [(a_0, .inr (12, [.int 0, .ref a_1, .ref a_2, .ref a_3, .ref a_4, .ref a_5, .int i_2, .int i_3, .int i_4, .int i_5, .int i_6, .long j_0, .int i_7, .int i_8, .int i_9, .int i_10, .ref a_6, .ref a_7, .ref a_8, .ref a_9, .ref a_10, .ref a_11, .ref a_12, .ref a_13, .ref a_14, .ref a_15, .ref a_16, .ref a_17, .ref a_18, .int i_11, .int i_12, .int i_13, .int i_14, .int i_15, .int i_16, .ref a_19, .int i_17, .ref a_20])), (a_6, .inl (cy 1, 5, .inl (mm_g [i_18, i_19, i_20, i_21, i_22]))), (a_7, .inl (cy 1, 30, .inl (mm_g [i_23, i_24, i_25, i_26, i_27, i_28, i_29, i_30, i_31, i_32, i_33, i_34, i_35, i_36, i_37, i_38, i_39, i_40, i_41, i_42, i_43, i_44, i_45, i_46, i_47, i_48, i_49, i_50, i_51, i_52]))), (a_9, .inl (cy 1, 15, .inl f_0)), (a_10, .inl (cy 1, 1050, .inl f_1)), (a_13, .inl (cy 1, 450, .inl f_2)), (a_15, .inl (cy 1, 7200, .inl f_3)), (a_16, .inl (cy 1, 3, .inl f_4)), (a_17, .inl (cy 1, 3, .inl f_5))]) hS
  refine lv_aload_n hx hb dX12_round_5 rfl (lv_at hl 0 rfl) ?_
  refine lv_iload_n hx hb dX12_round_6 rfl (lv_at hl 1 rfl) ?_
  refine mm_finir (va_runV (As := [.int i_0]) (rest := []) ⟨hx, hb, hml, hown, hts⟩ (M98_X12_isLand l G cy H.size a_0 i_0 0 a_1 a_2 a_3 a_4 a_5 i_2 i_3 i_4 i_5 i_6 j_0 i_7 i_8 i_9 i_10 a_6 a_7 a_8 a_9 a_10 a_11 a_12 a_13 a_14 a_15 a_16 a_17 a_18 i_11 i_12 i_13 i_14 i_15 i_16 a_19 i_17 a_20 i_23 i_24 i_25 i_26 i_27 i_28 i_29 i_30 i_31 i_32 i_33 i_34 i_35 i_36 i_37 i_38 i_39 i_40 i_41 i_42 i_43 i_44 i_45 i_46 i_47 i_48 i_49 i_50 i_51 i_52 h5 h6 h7 h8 h9 h10 h11 h12 h13 h14 h15 h16 h17 h18 h19 h20 h21 h22 h23 h24 h25 h26 h27 h28 h29 h30 h31 h32 h33 h34) (cwV 1 hts (mm_gV mm_w641 mm_w642 mm_w643 mm_w5 mm_w644) rfl rfl rfl hd_X12_isLand ⟨by rw [hRf]; exact Nat.le_of_ble_eq_true rfl, by rw [hRl]; exact Nat.le_of_ble_eq_true rfl⟩) (mm_preV hK hZ hS hA hP hD [0, 2] rfl rfl 0 rfl rfl rfl) rfl rfl hl.1 rfl (lv_room (Nat.le_of_ble_eq_true rfl)) dX12_round_7 ⟨by rw [hRc]; exact Nat.le_of_ble_eq_true rfl, by rw [hRs]; exact Nat.le_of_ble_eq_true rfl⟩) hP hD hS hA [0, 2] rfl (fun _ => rfl) ?_
  clear hP hD hS
  clear H locs
  intro v1 _u H locs hw hP hD hS
  rcases hw with rfl | ⟨rfl, w2, w3⟩
  · refine lv_if_ne (tgt := 16) hx hb dX12_round_10 (by decide) (fun c4 => ?_) (fun c4 => ?_)
    · exact absurd rfl (mm_ne c4)
    · refine lv_bipush (v := (-2)) hx hb dX12_round_13 (by decide) ?_
      subst hAe
      rw [hQ]
      exact W.iret (v := (-2)) hx hb hr (fun t ht hW => ⟨⟨(-2), (f_3, f_4, f_5), rfl, ⟨h38, h39, h40, (mm_wk mm_km2 (by decide))⟩, by rw [ht]; exact hP, hK.warm hW, hD⟩, hS.F ht⟩) hS.2.2 dX12_round_15
  · have q5 := mm_ltR (lo := 1) w3 w2 h8 (by decide)
    have q6 : mm_rg i_18 1 601 := mm_tl_3 h43 q5 h0 (by decide)
    refine lv_if_ne (tgt := 16) hx hb dX12_round_10 (by decide) (fun c7 => ?_) (fun c7 => ?_)
    · refine lv_aload_n hx hb dX12_round_16 rfl (lv_at hl 0 rfl) ?_
      refine mm_finv (va_runV (As := []) (rest := []) ⟨hx, hb, hml, hown, hts⟩ (M125_X12_lays l G cy H.size a_0 0 a_1 a_2 a_3 a_4 a_5 i_2 i_3 i_4 i_5 i_6 j_0 i_7 i_8 i_9 i_10 a_6 a_7 a_8 a_9 a_10 a_11 a_12 a_13 a_14 a_15 a_16 a_17 a_18 i_11 i_12 i_13 i_14 i_15 i_16 a_19 i_17 a_20 i_18 i_19 i_20 i_21 i_22 i_23 i_24 i_25 i_26 i_27 i_28 i_29 i_30 i_31 i_32 i_33 i_34 i_35 i_36 i_37 i_38 i_39 i_40 i_41 i_42 i_43 i_44 i_45 i_46 i_47 i_48 i_49 i_50 i_51 i_52 f_0 f_1 f_2 f_3 f_4 f_5 (mm_wk q6 (by decide)) h1 h2 h3 h4 h5 h6 h7 (mm_wk q5 (by decide)) h9 h10 h11 h12 h13 h14 h15 h16 h17 h18 h19 h20 h21 h22 h23 h24 h25 h26 h27 h28 h29 h30 h31 h32 h33 h34 h35 h36 h37 h38 h39 h40 h41 h42 h43 h44 h45 h46 h47 h48 h49 h50 h51 h52) (cwV 0 hts (mm_gV mm_w686 mm_w687 mm_w688 mm_w5 mm_w689) rfl rfl rfl hd_X12_lays ⟨by rw [hRf]; exact Nat.le_of_ble_eq_true rfl, by rw [hRl]; exact Nat.le_of_ble_eq_true rfl⟩) (mm_preV hK hZ hS hA hP hD [0, 1, 2, 3, 4, 5, 6, 7, 8] rfl rfl 0 rfl rfl rfl) rfl rfl hl.1 rfl (lv_room (Nat.le_of_ble_eq_true rfl)) dX12_round_17 ⟨by rw [hRc]; exact Nat.le_of_ble_eq_true rfl, by rw [hRs]; exact Nat.le_of_ble_eq_true rfl⟩) hP hD hS hA (fun u : (Nat → Int32) × (Nat → Int32) × (Nat → Int32) => [(a_0, .inr (12, [.int 0, .ref a_1, .ref a_2, .ref a_3, .ref a_4, .ref a_5, .int i_2, .int i_3, .int i_4, .int i_5, .int i_6, .long j_0, .int i_7, .int i_8, .int i_9, .int i_10, .ref a_6, .ref a_7, .ref a_8, .ref a_9, .ref a_10, .ref a_11, .ref a_12, .ref a_13, .ref a_14, .ref a_15, .ref a_16, .ref a_17, .ref a_18, .int i_11, .int i_12, .int i_13, .int i_14, .int i_15, .int i_16, .ref a_19, .int i_17, .ref a_20])), (a_6, .inl (cy 1, 5, .inl (mm_g [i_18, i_19, i_20, i_21, i_22]))), (a_7, .inl (cy 1, 30, .inl (mm_g [i_23, i_24, i_25, i_26, i_27, i_28, i_29, i_30, i_31, i_32, i_33, i_34, i_35, i_36, i_37, i_38, i_39, i_40, i_41, i_42, i_43, i_44, i_45, i_46, i_47, i_48, i_49, i_50, i_51, i_52]))), (a_9, .inl (cy 1, 15, .inl f_0)), (a_10, .inl (cy 1, 1050, .inl f_1)), (a_13, .inl (cy 1, 450, .inl f_2)), (a_15, .inl (cy 1, 7200, .inl u.1)), (a_16, .inl (cy 1, 3, .inl u.2.1)), (a_17, .inl (cy 1, 3, .inl u.2.2))]) [0, 1, 2, 3, 4, 5, 6, 7, 8] [] (n := 9) (fun _ => rfl) (by decide +kernel) (by decide +kernel) rfl (fun _ => rfl) (wr := []) rfl (fun _ => rfl) (fun _ => @rfl _ ([a_0, a_6, a_7, a_9, a_10, a_13, a_15, a_16, a_17] : List Nat)) ?_
      clear hP hD hS
      clear H locs
      intro u
      obtain ⟨n8, n9, n10⟩ := u
      intro H locs hw (hP : va_P G vwCl [(a_0, .inr (12, [.int 0, .ref a_1, .ref a_2, .ref a_3, .ref a_4, .ref a_5, .int i_2, .int i_3, .int i_4, .int i_5, .int i_6, .long j_0, .int i_7, .int i_8, .int i_9, .int i_10, .ref a_6, .ref a_7, .ref a_8, .ref a_9, .ref a_10, .ref a_11, .ref a_12, .ref a_13, .ref a_14, .ref a_15, .ref a_16, .ref a_17, .ref a_18, .int i_11, .int i_12, .int i_13, .int i_14, .int i_15, .int i_16, .ref a_19, .int i_17, .ref a_20])), (a_6, .inl (cy 1, 5, .inl (mm_g [i_18, i_19, i_20, i_21, i_22]))), (a_7, .inl (cy 1, 30, .inl (mm_g [i_23, i_24, i_25, i_26, i_27, i_28, i_29, i_30, i_31, i_32, i_33, i_34, i_35, i_36, i_37, i_38, i_39, i_40, i_41, i_42, i_43, i_44, i_45, i_46, i_47, i_48, i_49, i_50, i_51, i_52]))), (a_9, .inl (cy 1, 15, .inl f_0)), (a_10, .inl (cy 1, 1050, .inl f_1)), (a_13, .inl (cy 1, 450, .inl f_2)), (a_15, .inl (cy 1, 7200, .inl n8)), (a_16, .inl (cy 1, 3, .inl n9)), (a_17, .inl (cy 1, 3, .inl n10))] H) (hD : va_D A [(a_0, .inr (12, [.int 0, .ref a_1, .ref a_2, .ref a_3, .ref a_4, .ref a_5, .int i_2, .int i_3, .int i_4, .int i_5, .int i_6, .long j_0, .int i_7, .int i_8, .int i_9, .int i_10, .ref a_6, .ref a_7, .ref a_8, .ref a_9, .ref a_10, .ref a_11, .ref a_12, .ref a_13, .ref a_14, .ref a_15, .ref a_16, .ref a_17, .ref a_18, .int i_11, .int i_12, .int i_13, .int i_14, .int i_15, .int i_16, .ref a_19, .int i_17, .ref a_20])), (a_6, .inl (cy 1, 5, .inl (mm_g [i_18, i_19, i_20, i_21, i_22]))), (a_7, .inl (cy 1, 30, .inl (mm_g [i_23, i_24, i_25, i_26, i_27, i_28, i_29, i_30, i_31, i_32, i_33, i_34, i_35, i_36, i_37, i_38, i_39, i_40, i_41, i_42, i_43, i_44, i_45, i_46, i_47, i_48, i_49, i_50, i_51, i_52]))), (a_9, .inl (cy 1, 15, .inl f_0)), (a_10, .inl (cy 1, 1050, .inl f_1)), (a_13, .inl (cy 1, 450, .inl f_2)), (a_15, .inl (cy 1, 7200, .inl n8)), (a_16, .inl (cy 1, 3, .inl n9)), (a_17, .inl (cy 1, 3, .inl n10))]) hS
      obtain ⟨w11, w12, w13, w14, w15⟩ := hw
      replace w14 : mm_laid n9 n10 i_26 := w14
      replace w15 : mm_tab n8 n9 i_25 i_26 := w15
      refine lv_aload_n hx hb dX12_round_20 rfl (lv_at hl 0 rfl) ?_
      refine va_get (D := G) (ci := 12) (v := .ref a_17) (C := RX12) (T := TX12) (N := 38) hx hb hts (mm_i inlX12) hown hK.1 hP 0 rfl rfl 27 (by decide) (mm_h hts mm_w159) (fun _ h9 => h9) rfl dX12_round_21 ?_
      refine lv_iload_n hx hb dX12_round_24 rfl (lv_at hl 1 rfl) ?_
      refine va_iald hx hb hK.1 hP 8 1 rfl rfl (mm_in w2 (by decide)) dX12_round_25 ?_
      refine lv_topi (fun v16 ev16 => ?_)
      have rv16 : mm_rg v16 0 210 := mm_eqv ev16 (w13 _)
      have q17 : mm_rg v16 1 210 := mm_laid_ld1 w14 w3 ev16 w2 rv16 (by decide)
      subst hAe
      rw [hQ]
      exact W.iret (v := v16) hx hb hr (fun t ht hW => ⟨⟨v16, (n8, n9, n10), rfl, ⟨w11, w12, w13, (mm_wk q17 (by decide))⟩, by rw [ht]; exact hP, hK.warm hW, hD⟩, hS.F ht⟩) hS.2.2 dX12_round_26
    · exact mm_eqN c7.symm mm_k0 mm_k1 (by decide)

set_option maxHeartbeats 4000000 in
set_option maxRecDepth 100000 in
theorem M130_X12_when (l : Launch) (G : va_G) (cy : Nat → ClassId) (sz : Nat) (a_0 : Nat) (i_0 : Int32) (i_1 : Int32) (i_2 : Int32) (i_3 : Int32) (i_4 : Int32) (a_1 : Nat) (a_2 : Nat) (a_3 : Nat) (a_4 : Nat) (a_5 : Nat) (i_5 : Int32) (i_6 : Int32) (i_7 : Int32) (i_8 : Int32) (i_9 : Int32) (j_0 : Int64) (i_10 : Int32) (i_11 : Int32) (i_12 : Int32) (i_13 : Int32) (a_6 : Nat) (a_7 : Nat) (a_8 : Nat) (a_9 : Nat) (a_10 : Nat) (a_11 : Nat) (a_12 : Nat) (a_13 : Nat) (a_14 : Nat) (a_15 : Nat) (a_16 : Nat) (a_17 : Nat) (a_18 : Nat) (i_14 : Int32) (i_15 : Int32) (i_16 : Int32) (i_17 : Int32) (i_18 : Int32) (i_19 : Int32) (a_19 : Nat) (i_20 : Int32) (a_20 : Nat) (i_21 : Int32) (i_22 : Int32) (i_23 : Int32) (i_24 : Int32) (i_25 : Int32) (i_26 : Int32) (i_27 : Int32) (i_28 : Int32) (i_29 : Int32) (i_30 : Int32) (i_31 : Int32) (i_32 : Int32) (i_33 : Int32) (i_34 : Int32) (i_35 : Int32) (i_36 : Int32) (i_37 : Int32) (i_38 : Int32) (i_39 : Int32) (i_40 : Int32) (i_41 : Int32) (i_42 : Int32) (i_43 : Int32) (i_44 : Int32) (i_45 : Int32) (i_46 : Int32) (i_47 : Int32) (i_48 : Int32) (i_49 : Int32) (i_50 : Int32) (i_51 : Int32) (i_52 : Int32) (i_53 : Int32) (i_54 : Int32) (i_55 : Int32) (f_0 : Nat → Int32) (f_1 : Nat → Int32) (f_2 : Nat → Int32) (f_3 : Nat → Int32) (f_4 : Nat → Int32) (f_5 : Nat → Int32) (h0 : mm_rg i_21 0 601) (h1 : mm_rg i_22 0 601) (h2 : mm_rg i_23 0 601) (h3 : mm_rg i_24 0 601) (h4 : mm_rg i_25 0 601) (h5 : mm_rg i_26 0 10) (h6 : mm_rg i_27 0 99) (h7 : mm_rg i_28 0 9) (h8 : mm_rg i_29 0 3) (h9 : mm_rg i_30 0 6) (h10 : mm_rg i_31 0 30) (h11 : mm_rg i_32 0 10) (h12 : mm_rg i_33 0 99) (h13 : mm_rg i_34 0 9) (h14 : mm_rg i_35 0 3) (h15 : mm_rg i_36 0 6) (h16 : mm_rg i_37 0 30) (h17 : mm_rg i_38 0 10) (h18 : mm_rg i_39 0 99) (h19 : mm_rg i_40 0 9) (h20 : mm_rg i_41 0 3) (h21 : mm_rg i_42 0 6) (h22 : mm_rg i_43 0 30) (h23 : mm_rg i_44 0 10) (h24 : mm_rg i_45 0 99) (h25 : mm_rg i_46 0 9) (h26 : mm_rg i_47 0 3) (h27 : mm_rg i_48 0 6) (h28 : mm_rg i_49 0 30) (h29 : mm_rg i_50 0 10) (h30 : mm_rg i_51 0 99) (h31 : mm_rg i_52 0 9) (h32 : mm_rg i_53 0 3) (h33 : mm_rg i_54 0 6) (h34 : mm_rg i_55 0 30) (h35 : mm_ar f_0 0 7) (h36 : mm_ar f_1 0 9) (h37 : mm_ar f_2 (-1) 99) (h38 : mm_ar f_3 0 9) (h39 : mm_ar f_4 0 210) (h40 : mm_ar f_5 0 210) (h41 : mm_rls f_0 f_1 0 i_28 i_29) (h42 : mm_acs f_2 0 i_28 i_29 i_31) (h43 : mm_tl i_21 i_29 i_30) (h44 : mm_rls f_0 f_1 1 i_34 i_35) (h45 : mm_acs f_2 1 i_34 i_35 i_37) (h46 : mm_tl i_22 i_35 i_36) (h47 : mm_rls f_0 f_1 2 i_40 i_41) (h48 : mm_acs f_2 2 i_40 i_41 i_43) (h49 : mm_tl i_23 i_41 i_42) (h50 : mm_rls f_0 f_1 3 i_46 i_47) (h51 : mm_acs f_2 3 i_46 i_47 i_49) (h52 : mm_tl i_24 i_47 i_48)  : mm_CI l yX12_when (mm_ws yX12_when cX12_when 6 (some .int)) ({ frames := 14, cells := 0, slots := 0, locals := 300 } : Room) G cy sz [(a_0, .inr (12, [.int i_4, .ref a_1, .ref a_2, .ref a_3, .ref a_4, .ref a_5, .int i_5, .int i_6, .int i_7, .int i_8, .int i_9, .long j_0, .int i_10, .int i_11, .int i_12, .int i_13, .ref a_6, .ref a_7, .ref a_8, .ref a_9, .ref a_10, .ref a_11, .ref a_12, .ref a_13, .ref a_14, .ref a_15, .ref a_16, .ref a_17, .ref a_18, .int i_14, .int i_15, .int i_16, .int i_17, .int i_18, .int i_19, .ref a_19, .int i_20, .ref a_20])), (a_6, .inl (cy 1, 5, .inl (mm_g [i_21, i_22, i_23, i_24, i_25]))), (a_7, .inl (cy 1, 30, .inl (mm_g [i_26, i_27, i_28, i_29, i_30, i_31, i_32, i_33, i_34, i_35, i_36, i_37, i_38, i_39, i_40, i_41, i_42, i_43, i_44, i_45, i_46, i_47, i_48, i_49, i_50, i_51, i_52, i_53, i_54, i_55]))), (a_9, .inl (cy 1, 15, .inl f_0)), (a_10, .inl (cy 1, 1050, .inl f_1)), (a_13, .inl (cy 1, 450, .inl f_2)), (a_15, .inl (cy 1, 7200, .inl f_3)), (a_16, .inl (cy 1, 3, .inl f_4)), (a_17, .inl (cy 1, 3, .inl f_5))] [.ref a_0, .int i_0, .int i_1, .int i_2, .int i_3] (fun u : (Nat → Int32) × (Nat → Int32) × (Nat → Int32) => [(a_0, .inr (12, [.int 0, .ref a_1, .ref a_2, .ref a_3, .ref a_4, .ref a_5, .int i_5, .int i_6, .int i_7, .int i_8, .int i_9, .long j_0, .int i_10, .int i_11, .int i_12, .int i_13, .ref a_6, .ref a_7, .ref a_8, .ref a_9, .ref a_10, .ref a_11, .ref a_12, .ref a_13, .ref a_14, .ref a_15, .ref a_16, .ref a_17, .ref a_18, .int i_14, .int i_15, .int i_16, .int i_17, .int i_18, .int i_19, .ref a_19, .int i_20, .ref a_20])), (a_6, .inl (cy 1, 5, .inl (mm_g [i_21, i_22, i_23, i_24, i_25]))), (a_7, .inl (cy 1, 30, .inl (mm_g [i_26, i_27, i_28, i_29, i_30, i_31, i_32, i_33, i_34, i_35, i_36, i_37, i_38, i_39, i_40, i_41, i_42, i_43, i_44, i_45, i_46, i_47, i_48, i_49, i_50, i_51, i_52, i_53, i_54, i_55]))), (a_9, .inl (cy 1, 15, .inl f_0)), (a_10, .inl (cy 1, 1050, .inl f_1)), (a_13, .inl (cy 1, 450, .inl f_2)), (a_15, .inl (cy 1, 7200, .inl u.1)), (a_16, .inl (cy 1, 3, .inl u.2.1)), (a_17, .inl (cy 1, 3, .inl u.2.2))]) (fun (r : Int32) (u : (Nat → Int32) × (Nat → Int32) × (Nat → Int32)) => mm_ar u.1 0 9 ∧ mm_ar u.2.1 0 210 ∧ mm_ar u.2.2 0 210 ∧ mm_rg r (-2) 1000000209) 0 0 := by
  refine mm_begin (lv := [(0, .ref a_0), (1, .int i_0), (2, .int i_1), (3, .int i_2), (4, .int i_3)]) (by decide) (Nat.le_of_ble_eq_true rfl) rfl ?_
  intro p e s m below meth c A ls R args Q H locs hRe hQ hAe hx hb hr hlocks hml hown hnm hts hsz hA hS hP hK hD hZ hl
  have hRf : R.frames = 14 := by rw [hRe]
  have hRl : R.locals = 300 := by rw [hRe]
  have hRc : R.cells = 0 := by rw [hRe]
  have hRs : R.slots = 0 := by rw [hRe]
  refine lv_aload_n hx hb dX12_when_0 rfl (lv_at hl 0 rfl) ?_
  refine lv_iconst (v := 0) hx hb dX12_when_1 (by decide) ?_
  refine va_put (D := G) (ci := 12) (v := .int 0) (ty := tyX12 0) (C := RX12) (T := TX12) (N := 38) hx hb hts (mm_i inlX12) tyX12 tyX12_ok nmX12 hown hK.1 hP hD hS 0 rfl rfl 0 (by decide) (mm_h hts mm_w177) (fun _ h9 => h9) rfl (tyX12_ok 0 (by decide)) rfl rfl (Nat.le_of_ble_eq_true rfl) dX12_when_2 ?_
  clear hP hD hS
  clear H locs
  intro H locs (hP : va_P G vwCl [(a_0, .inr (12, [.int 0, .ref a_1, .ref a_2, .ref a_3, .ref a_4, .ref a_5, .int i_5, .int i_6, .int i_7, .int i_8, .int i_9, .long j_0, .int i_10, .int i_11, .int i_12, .int i_13, .ref a_6, .ref a_7, .ref a_8, .ref a_9, .ref a_10, .ref a_11, .ref a_12, .ref a_13, .ref a_14, .ref a_15, .ref a_16, .ref a_17, .ref a_18, .int i_14, .int i_15, .int i_16, .int i_17, .int i_18, .int i_19, .ref a_19, .int i_20, .ref a_20])), (a_6, .inl (cy 1, 5, .inl (mm_g [i_21, i_22, i_23, i_24, i_25]))), (a_7, .inl (cy 1, 30, .inl (mm_g [i_26, i_27, i_28, i_29, i_30, i_31, i_32, i_33, i_34, i_35, i_36, i_37, i_38, i_39, i_40, i_41, i_42, i_43, i_44, i_45, i_46, i_47, i_48, i_49, i_50, i_51, i_52, i_53, i_54, i_55]))), (a_9, .inl (cy 1, 15, .inl f_0)), (a_10, .inl (cy 1, 1050, .inl f_1)), (a_13, .inl (cy 1, 450, .inl f_2)), (a_15, .inl (cy 1, 7200, .inl f_3)), (a_16, .inl (cy 1, 3, .inl f_4)), (a_17, .inl (cy 1, 3, .inl f_5))] H) (hD : va_D A [(a_0, .inr (12, [.int 0, .ref a_1, .ref a_2, .ref a_3, .ref a_4, .ref a_5, .int i_5, .int i_6, .int i_7, .int i_8, .int i_9, .long j_0, .int i_10, .int i_11, .int i_12, .int i_13, .ref a_6, .ref a_7, .ref a_8, .ref a_9, .ref a_10, .ref a_11, .ref a_12, .ref a_13, .ref a_14, .ref a_15, .ref a_16, .ref a_17, .ref a_18, .int i_14, .int i_15, .int i_16, .int i_17, .int i_18, .int i_19, .ref a_19, .int i_20, .ref a_20])), (a_6, .inl (cy 1, 5, .inl (mm_g [i_21, i_22, i_23, i_24, i_25]))), (a_7, .inl (cy 1, 30, .inl (mm_g [i_26, i_27, i_28, i_29, i_30, i_31, i_32, i_33, i_34, i_35, i_36, i_37, i_38, i_39, i_40, i_41, i_42, i_43, i_44, i_45, i_46, i_47, i_48, i_49, i_50, i_51, i_52, i_53, i_54, i_55]))), (a_9, .inl (cy 1, 15, .inl f_0)), (a_10, .inl (cy 1, 1050, .inl f_1)), (a_13, .inl (cy 1, 450, .inl f_2)), (a_15, .inl (cy 1, 7200, .inl f_3)), (a_16, .inl (cy 1, 3, .inl f_4)), (a_17, .inl (cy 1, 3, .inl f_5))]) hS
  refine lv_aload_n hx hb dX12_when_5 rfl (lv_at hl 0 rfl) ?_
  refine lv_iload_n hx hb dX12_when_6 rfl (lv_at hl 1 rfl) ?_
  refine lv_iload hx hb dX12_when_7 (lv_at hl 4 rfl) ?_
  refine mm_finir (va_runV (As := [.int i_0, .int i_3]) (rest := []) ⟨hx, hb, hml, hown, hts⟩ (M104_X12_isThen l G cy H.size a_0 i_0 i_3 0 a_1 a_2 a_3 a_4 a_5 i_5 i_6 i_7 i_8 i_9 j_0 i_10 i_11 i_12 i_13 a_6 a_7 a_8 a_9 a_10 a_11 a_12 a_13 a_14 a_15 a_16 a_17 a_18 i_14 i_15 i_16 i_17 i_18 i_19 a_19 i_20 a_20 i_26 i_27 i_28 i_29 i_30 i_31 i_32 i_33 i_34 i_35 i_36 i_37 i_38 i_39 i_40 i_41 i_42 i_43 i_44 i_45 i_46 i_47 i_48 i_49 i_50 i_51 i_52 i_53 i_54 i_55 h5 h6 h7 h8 h9 h10 h11 h12 h13 h14 h15 h16 h17 h18 h19 h20 h21 h22 h23 h24 h25 h26 h27 h28 h29 h30 h31 h32 h33 h34) (cwV 2 hts (mm_gV mm_w678 mm_w679 mm_w680 mm_w5 mm_w681) rfl rfl rfl hd_X12_isThen ⟨by rw [hRf]; exact Nat.le_of_ble_eq_true rfl, by rw [hRl]; exact Nat.le_of_ble_eq_true rfl⟩) (mm_preV hK hZ hS hA hP hD [0, 2] rfl rfl 0 rfl rfl rfl) rfl rfl hl.1 rfl (lv_room (Nat.le_of_ble_eq_true rfl)) dX12_when_9 ⟨by rw [hRc]; exact Nat.le_of_ble_eq_true rfl, by rw [hRs]; exact Nat.le_of_ble_eq_true rfl⟩) hP hD hS hA [0, 2] rfl (fun _ => rfl) ?_
  clear hP hD hS
  clear H locs
  intro v1 _u H locs hw hP hD hS
  rcases hw with rfl | ⟨rfl, w2, w3, w4⟩
  · refine lv_if_eq (tgt := 31) hx hb dX12_when_12 (by decide) (fun c5 => ?_) (fun c5 => ?_)
    · refine lv_bipush (v := (-2)) hx hb dX12_when_31 (by decide) ?_
      subst hAe
      rw [hQ]
      exact W.iret (v := (-2)) hx hb hr (fun t ht hW => ⟨⟨(-2), (f_3, f_4, f_5), rfl, ⟨h38, h39, h40, (mm_wk mm_km2 (by decide))⟩, by rw [ht]; exact hP, hK.warm hW, hD⟩, hS.F ht⟩) hS.2.2 dX12_when_33
    · exact absurd rfl (mm_ne c5)
  · have q6 := mm_ltR (lo := 1) w4 w2 h8 (by decide)
    have q7 : mm_rg i_21 1 601 := mm_tl_3 h43 q6 h0 (by decide)
    refine lv_if_eq (tgt := 31) hx hb dX12_when_12 (by decide) (fun c8 => ?_) (fun c8 => ?_)
    · exact mm_eqN c8.symm mm_k0 mm_k1 (by decide)
    · refine lv_aload_n hx hb dX12_when_15 rfl (lv_at hl 0 rfl) ?_
      refine lv_iload_n hx hb dX12_when_16 rfl (lv_at hl 2 rfl) ?_
      refine mm_finir (va_runV (As := [.int i_1]) (rest := []) ⟨hx, hb, hml, hown, hts⟩ (M101_X12_isWord l G cy H.size a_0 i_1 0 a_1 a_2 a_3 a_4 a_5 i_5 i_6 i_7 i_8 i_9 j_0 i_10 i_11 i_12 i_13 a_6 a_7 a_8 a_9 a_10 a_11 a_12 a_13 a_14 a_15 a_16 a_17 a_18 i_14 i_15 i_16 i_17 i_18 i_19 a_19 i_20 a_20 i_21 i_22 i_23 i_24 i_25 i_26 i_27 i_28 i_29 i_30 i_31 i_32 i_33 i_34 i_35 i_36 i_37 i_38 i_39 i_40 i_41 i_42 i_43 i_44 i_45 i_46 i_47 i_48 i_49 i_50 i_51 i_52 i_53 i_54 i_55 q7 h1 h2 h3 h4 h5 h6 h7 (mm_wk q6 (by decide)) h9 h10 h11 h12 h13 h14 h15 h16 h17 h18 h19 h20 h21 h22 h23 h24 h25 h26 h27 h28 h29 h30 h31 h32 h33 h34 h43 h46 h49 h52) (cwV 1 hts (mm_gV mm_w645 mm_w646 mm_w647 mm_w5 mm_w648) rfl rfl rfl hd_X12_isWord ⟨by rw [hRf]; exact Nat.le_of_ble_eq_true rfl, by rw [hRl]; exact Nat.le_of_ble_eq_true rfl⟩) (mm_preV hK hZ hS hA hP hD [0, 1, 2] rfl rfl 0 rfl rfl rfl) rfl rfl hl.1 rfl (lv_room (Nat.le_of_ble_eq_true rfl)) dX12_when_17 ⟨by rw [hRc]; exact Nat.le_of_ble_eq_true rfl, by rw [hRs]; exact Nat.le_of_ble_eq_true rfl⟩) hP hD hS hA [0, 1, 2] rfl (fun _ => rfl) ?_
      clear hP hD hS
      clear H locs
      intro v9 _u H locs hw hP hD hS
      rcases hw with rfl | ⟨rfl, w10, w11⟩
      · refine lv_if_eq (tgt := 31) hx hb dX12_when_20 (by decide) (fun c12 => ?_) (fun c12 => ?_)
        · refine lv_bipush (v := (-2)) hx hb dX12_when_31 (by decide) ?_
          subst hAe
          rw [hQ]
          exact W.iret (v := (-2)) hx hb hr (fun t ht hW => ⟨⟨(-2), (f_3, f_4, f_5), rfl, ⟨h38, h39, h40, (mm_wk mm_km2 (by decide))⟩, by rw [ht]; exact hP, hK.warm hW, hD⟩, hS.F ht⟩) hS.2.2 dX12_when_33
        · exact absurd rfl (mm_ne c12)
      · refine lv_if_eq (tgt := 31) hx hb dX12_when_20 (by decide) (fun c13 => ?_) (fun c13 => ?_)
        · exact mm_eqN c13.symm mm_k0 mm_k1 (by decide)
        · refine lv_aload_n hx hb dX12_when_23 rfl (lv_at hl 0 rfl) ?_
          refine lv_iload_n hx hb dX12_when_24 rfl (lv_at hl 3 rfl) ?_
          refine mm_finir (va_runV (As := [.int i_2]) (rest := []) ⟨hx, hb, hml, hown, hts⟩ (M101_X12_isWord l G cy H.size a_0 i_2 0 a_1 a_2 a_3 a_4 a_5 i_5 i_6 i_7 i_8 i_9 j_0 i_10 i_11 i_12 i_13 a_6 a_7 a_8 a_9 a_10 a_11 a_12 a_13 a_14 a_15 a_16 a_17 a_18 i_14 i_15 i_16 i_17 i_18 i_19 a_19 i_20 a_20 i_21 i_22 i_23 i_24 i_25 i_26 i_27 i_28 i_29 i_30 i_31 i_32 i_33 i_34 i_35 i_36 i_37 i_38 i_39 i_40 i_41 i_42 i_43 i_44 i_45 i_46 i_47 i_48 i_49 i_50 i_51 i_52 i_53 i_54 i_55 q7 h1 h2 h3 h4 h5 h6 h7 (mm_wk q6 (by decide)) h9 h10 h11 h12 h13 h14 h15 h16 h17 h18 h19 h20 h21 h22 h23 h24 h25 h26 h27 h28 h29 h30 h31 h32 h33 h34 h43 h46 h49 h52) (cwV 1 hts (mm_gV mm_w645 mm_w646 mm_w647 mm_w5 mm_w648) rfl rfl rfl hd_X12_isWord ⟨by rw [hRf]; exact Nat.le_of_ble_eq_true rfl, by rw [hRl]; exact Nat.le_of_ble_eq_true rfl⟩) (mm_preV hK hZ hS hA hP hD [0, 1, 2] rfl rfl 0 rfl rfl rfl) rfl rfl hl.1 rfl (lv_room (Nat.le_of_ble_eq_true rfl)) dX12_when_25 ⟨by rw [hRc]; exact Nat.le_of_ble_eq_true rfl, by rw [hRs]; exact Nat.le_of_ble_eq_true rfl⟩) hP hD hS hA [0, 1, 2] rfl (fun _ => rfl) ?_
          clear hP hD hS
          clear H locs
          intro v14 _u H locs hw hP hD hS
          rcases hw with rfl | ⟨rfl, w15, w16⟩
          · refine lv_if_ne (tgt := 34) hx hb dX12_when_28 (by decide) (fun c17 => ?_) (fun c17 => ?_)
            · exact absurd rfl (mm_ne c17)
            · refine lv_bipush (v := (-2)) hx hb dX12_when_31 (by decide) ?_
              subst hAe
              rw [hQ]
              exact W.iret (v := (-2)) hx hb hr (fun t ht hW => ⟨⟨(-2), (f_3, f_4, f_5), rfl, ⟨h38, h39, h40, (mm_wk mm_km2 (by decide))⟩, by rw [ht]; exact hP, hK.warm hW, hD⟩, hS.F ht⟩) hS.2.2 dX12_when_33
          · refine lv_if_ne (tgt := 34) hx hb dX12_when_28 (by decide) (fun c18 => ?_) (fun c18 => ?_)
            · refine lv_aload_n hx hb dX12_when_34 rfl (lv_at hl 0 rfl) ?_
              refine mm_finv (va_runV (As := []) (rest := []) ⟨hx, hb, hml, hown, hts⟩ (M125_X12_lays l G cy H.size a_0 0 a_1 a_2 a_3 a_4 a_5 i_5 i_6 i_7 i_8 i_9 j_0 i_10 i_11 i_12 i_13 a_6 a_7 a_8 a_9 a_10 a_11 a_12 a_13 a_14 a_15 a_16 a_17 a_18 i_14 i_15 i_16 i_17 i_18 i_19 a_19 i_20 a_20 i_21 i_22 i_23 i_24 i_25 i_26 i_27 i_28 i_29 i_30 i_31 i_32 i_33 i_34 i_35 i_36 i_37 i_38 i_39 i_40 i_41 i_42 i_43 i_44 i_45 i_46 i_47 i_48 i_49 i_50 i_51 i_52 i_53 i_54 i_55 f_0 f_1 f_2 f_3 f_4 f_5 (mm_wk q7 (by decide)) h1 h2 h3 h4 h5 h6 h7 (mm_wk q6 (by decide)) h9 h10 h11 h12 h13 h14 h15 h16 h17 h18 h19 h20 h21 h22 h23 h24 h25 h26 h27 h28 h29 h30 h31 h32 h33 h34 h35 h36 h37 h38 h39 h40 h41 h42 h43 h44 h45 h46 h47 h48 h49 h50 h51 h52) (cwV 0 hts (mm_gV mm_w686 mm_w687 mm_w688 mm_w5 mm_w689) rfl rfl rfl hd_X12_lays ⟨by rw [hRf]; exact Nat.le_of_ble_eq_true rfl, by rw [hRl]; exact Nat.le_of_ble_eq_true rfl⟩) (mm_preV hK hZ hS hA hP hD [0, 1, 2, 3, 4, 5, 6, 7, 8] rfl rfl 0 rfl rfl rfl) rfl rfl hl.1 rfl (lv_room (Nat.le_of_ble_eq_true rfl)) dX12_when_35 ⟨by rw [hRc]; exact Nat.le_of_ble_eq_true rfl, by rw [hRs]; exact Nat.le_of_ble_eq_true rfl⟩) hP hD hS hA (fun u : (Nat → Int32) × (Nat → Int32) × (Nat → Int32) => [(a_0, .inr (12, [.int 0, .ref a_1, .ref a_2, .ref a_3, .ref a_4, .ref a_5, .int i_5, .int i_6, .int i_7, .int i_8, .int i_9, .long j_0, .int i_10, .int i_11, .int i_12, .int i_13, .ref a_6, .ref a_7, .ref a_8, .ref a_9, .ref a_10, .ref a_11, .ref a_12, .ref a_13, .ref a_14, .ref a_15, .ref a_16, .ref a_17, .ref a_18, .int i_14, .int i_15, .int i_16, .int i_17, .int i_18, .int i_19, .ref a_19, .int i_20, .ref a_20])), (a_6, .inl (cy 1, 5, .inl (mm_g [i_21, i_22, i_23, i_24, i_25]))), (a_7, .inl (cy 1, 30, .inl (mm_g [i_26, i_27, i_28, i_29, i_30, i_31, i_32, i_33, i_34, i_35, i_36, i_37, i_38, i_39, i_40, i_41, i_42, i_43, i_44, i_45, i_46, i_47, i_48, i_49, i_50, i_51, i_52, i_53, i_54, i_55]))), (a_9, .inl (cy 1, 15, .inl f_0)), (a_10, .inl (cy 1, 1050, .inl f_1)), (a_13, .inl (cy 1, 450, .inl f_2)), (a_15, .inl (cy 1, 7200, .inl u.1)), (a_16, .inl (cy 1, 3, .inl u.2.1)), (a_17, .inl (cy 1, 3, .inl u.2.2))]) [0, 1, 2, 3, 4, 5, 6, 7, 8] [] (n := 9) (fun _ => rfl) (by decide +kernel) (by decide +kernel) rfl (fun _ => rfl) (wr := []) rfl (fun _ => rfl) (fun _ => @rfl _ ([a_0, a_6, a_7, a_9, a_10, a_13, a_15, a_16, a_17] : List Nat)) ?_
              clear hP hD hS
              clear H locs
              intro u
              obtain ⟨n19, n20, n21⟩ := u
              intro H locs hw (hP : va_P G vwCl [(a_0, .inr (12, [.int 0, .ref a_1, .ref a_2, .ref a_3, .ref a_4, .ref a_5, .int i_5, .int i_6, .int i_7, .int i_8, .int i_9, .long j_0, .int i_10, .int i_11, .int i_12, .int i_13, .ref a_6, .ref a_7, .ref a_8, .ref a_9, .ref a_10, .ref a_11, .ref a_12, .ref a_13, .ref a_14, .ref a_15, .ref a_16, .ref a_17, .ref a_18, .int i_14, .int i_15, .int i_16, .int i_17, .int i_18, .int i_19, .ref a_19, .int i_20, .ref a_20])), (a_6, .inl (cy 1, 5, .inl (mm_g [i_21, i_22, i_23, i_24, i_25]))), (a_7, .inl (cy 1, 30, .inl (mm_g [i_26, i_27, i_28, i_29, i_30, i_31, i_32, i_33, i_34, i_35, i_36, i_37, i_38, i_39, i_40, i_41, i_42, i_43, i_44, i_45, i_46, i_47, i_48, i_49, i_50, i_51, i_52, i_53, i_54, i_55]))), (a_9, .inl (cy 1, 15, .inl f_0)), (a_10, .inl (cy 1, 1050, .inl f_1)), (a_13, .inl (cy 1, 450, .inl f_2)), (a_15, .inl (cy 1, 7200, .inl n19)), (a_16, .inl (cy 1, 3, .inl n20)), (a_17, .inl (cy 1, 3, .inl n21))] H) (hD : va_D A [(a_0, .inr (12, [.int 0, .ref a_1, .ref a_2, .ref a_3, .ref a_4, .ref a_5, .int i_5, .int i_6, .int i_7, .int i_8, .int i_9, .long j_0, .int i_10, .int i_11, .int i_12, .int i_13, .ref a_6, .ref a_7, .ref a_8, .ref a_9, .ref a_10, .ref a_11, .ref a_12, .ref a_13, .ref a_14, .ref a_15, .ref a_16, .ref a_17, .ref a_18, .int i_14, .int i_15, .int i_16, .int i_17, .int i_18, .int i_19, .ref a_19, .int i_20, .ref a_20])), (a_6, .inl (cy 1, 5, .inl (mm_g [i_21, i_22, i_23, i_24, i_25]))), (a_7, .inl (cy 1, 30, .inl (mm_g [i_26, i_27, i_28, i_29, i_30, i_31, i_32, i_33, i_34, i_35, i_36, i_37, i_38, i_39, i_40, i_41, i_42, i_43, i_44, i_45, i_46, i_47, i_48, i_49, i_50, i_51, i_52, i_53, i_54, i_55]))), (a_9, .inl (cy 1, 15, .inl f_0)), (a_10, .inl (cy 1, 1050, .inl f_1)), (a_13, .inl (cy 1, 450, .inl f_2)), (a_15, .inl (cy 1, 7200, .inl n19)), (a_16, .inl (cy 1, 3, .inl n20)), (a_17, .inl (cy 1, 3, .inl n21))]) hS
              obtain ⟨w22, w23, w24, w25, w26⟩ := hw
              replace w25 : mm_laid n20 n21 i_29 := w25
              replace w26 : mm_tab n19 n20 i_28 i_29 := w26
              refine lv_iconst (v := 0) hx hb dX12_when_38 (by decide) ?_
              refine lv_istore (lv' := [(5, .int 0), (0, .ref a_0), (1, .int i_0), (2, .int i_1), (3, .int i_2), (4, .int i_3)]) hx hb dX12_when_39 hl (by decide) rfl ?_
              clear hl
              clear ls
              intro ls hl
              have L41_200 : ∀ (n : Nat) (x41_5_200 : Int32), mm_rg x41_5_200 0 210 → (210 - x41_5_200.toInt).toNat < n → ∀ (H : Heap) (locs : List Loc), va_P G vwCl [(a_0, .inr (12, [.int 0, .ref a_1, .ref a_2, .ref a_3, .ref a_4, .ref a_5, .int i_5, .int i_6, .int i_7, .int i_8, .int i_9, .long j_0, .int i_10, .int i_11, .int i_12, .int i_13, .ref a_6, .ref a_7, .ref a_8, .ref a_9, .ref a_10, .ref a_11, .ref a_12, .ref a_13, .ref a_14, .ref a_15, .ref a_16, .ref a_17, .ref a_18, .int i_14, .int i_15, .int i_16, .int i_17, .int i_18, .int i_19, .ref a_19, .int i_20, .ref a_20])), (a_6, .inl (cy 1, 5, .inl (mm_g [i_21, i_22, i_23, i_24, i_25]))), (a_7, .inl (cy 1, 30, .inl (mm_g [i_26, i_27, i_28, i_29, i_30, i_31, i_32, i_33, i_34, i_35, i_36, i_37, i_38, i_39, i_40, i_41, i_42, i_43, i_44, i_45, i_46, i_47, i_48, i_49, i_50, i_51, i_52, i_53, i_54, i_55]))), (a_9, .inl (cy 1, 15, .inl f_0)), (a_10, .inl (cy 1, 1050, .inl f_1)), (a_13, .inl (cy 1, 450, .inl f_2)), (a_15, .inl (cy 1, 7200, .inl n19)), (a_16, .inl (cy 1, 3, .inl n20)), (a_17, .inl (cy 1, 3, .inl n21))] H → va_D A [(a_0, .inr (12, [.int 0, .ref a_1, .ref a_2, .ref a_3, .ref a_4, .ref a_5, .int i_5, .int i_6, .int i_7, .int i_8, .int i_9, .long j_0, .int i_10, .int i_11, .int i_12, .int i_13, .ref a_6, .ref a_7, .ref a_8, .ref a_9, .ref a_10, .ref a_11, .ref a_12, .ref a_13, .ref a_14, .ref a_15, .ref a_16, .ref a_17, .ref a_18, .int i_14, .int i_15, .int i_16, .int i_17, .int i_18, .int i_19, .ref a_19, .int i_20, .ref a_20])), (a_6, .inl (cy 1, 5, .inl (mm_g [i_21, i_22, i_23, i_24, i_25]))), (a_7, .inl (cy 1, 30, .inl (mm_g [i_26, i_27, i_28, i_29, i_30, i_31, i_32, i_33, i_34, i_35, i_36, i_37, i_38, i_39, i_40, i_41, i_42, i_43, i_44, i_45, i_46, i_47, i_48, i_49, i_50, i_51, i_52, i_53, i_54, i_55]))), (a_9, .inl (cy 1, 15, .inl f_0)), (a_10, .inl (cy 1, 1050, .inl f_1)), (a_13, .inl (cy 1, 450, .inl f_2)), (a_15, .inl (cy 1, 7200, .inl n19)), (a_16, .inl (cy 1, 3, .inl n20)), (a_17, .inl (cy 1, 3, .inl n21))] → va_S A s.heap H locs → ∀ (ls : Array Slot), lv_has ls 6 [(5, .int x41_5_200), (0, .ref a_0), (1, .int i_0), (2, .int i_1), (3, .int i_2), (4, .int i_3)] → W p l e R s m args below meth c H locs 0 0 Q (F0 m 41 ls []) := by
                intro n
                induction n with
                | zero => intro x41_5_200 rx41_5_200 hm; exact absurd hm (Nat.not_lt_zero _)
                | succ n ih41 =>
                  intro x41_5_200 rx41_5_200 hm41 H locs hP hD hS ls hl
                  refine lv_iload hx hb dX12_when_41 (lv_at hl 0 rfl) ?_
                  refine lv_aload_n hx hb dX12_when_43 rfl (lv_at hl 1 rfl) ?_
                  refine va_get (D := G) (ci := 12) (v := .ref a_16) (C := RX12) (T := TX12) (N := 38) hx hb hts (mm_i inlX12) hown hK.1 hP 0 rfl rfl 26 (by decide) (mm_h hts mm_w158) (fun _ h9 => h9) rfl dX12_when_44 ?_
                  refine lv_iload_n hx hb dX12_when_47 rfl (lv_at hl 2 rfl) ?_
                  refine va_iald hx hb hK.1 hP 7 1 rfl rfl (mm_in w2 (by decide)) dX12_when_48 ?_
                  refine lv_topi (fun v202 ev202 => ?_)
                  have rv202 : mm_rg v202 0 210 := mm_eqv ev202 (w23 _)
                  have q203 : mm_rg v202 1 210 := mm_laid_ld0 w25 w4 ev202 w2 rv202 (by decide)
                  refine lv_icmp_ge (tgt := 79) hx hb dX12_when_49 (by decide) (fun c204 => ?_) (fun c204 => ?_)
                  · have q205 := mm_leR (mm_le c204) q203 rx41_5_200
                    refine lv_iconst (v := (-1)) hx hb dX12_when_79 (by decide) ?_
                    subst hAe
                    rw [hQ]
                    exact W.iret (v := (-1)) hx hb hr (fun t ht hW => ⟨⟨(-1), (n19, n20, n21), rfl, ⟨w22, w23, w24, (mm_wk mm_km1 (by decide))⟩, by rw [ht]; exact hP, hK.warm hW, hD⟩, hS.F ht⟩) hS.2.2 dX12_when_80
                  · have q206 := mm_ltL (h := 209) (mm_nle c204) rx41_5_200 q203 (by decide)
                    refine lv_aload_n hx hb dX12_when_52 rfl (lv_at hl 1 rfl) ?_
                    refine lv_iload_n hx hb dX12_when_53 rfl (lv_at hl 2 rfl) ?_
                    refine lv_iload hx hb dX12_when_54 (lv_at hl 5 rfl) ?_
                    refine lv_iload hx hb dX12_when_56 (lv_at hl 0 rfl) ?_
                    refine lv_iadd hx hb dX12_when_58 ?_
                    refine lv_topi (fun v207 ev207 => ?_)
                    have rv207 : mm_rg v207 0 1000000209 := mm_add ev207 w3 q206 (by decide) (by decide)
                    have tv207 := mm_addE ev207 w3 q206 (by decide)
                    refine lv_iload_n hx hb dX12_when_59 rfl (lv_at hl 3 rfl) ?_
                    refine mm_finir (va_runV (As := [.int i_0, .int v207, .int i_1]) (rest := []) ⟨hx, hb, hml, hown, hts⟩ (M122_X12_means0 l G cy H.size a_0 i_0 v207 i_1 0 a_1 a_2 a_3 a_4 a_5 i_5 i_6 i_7 i_8 i_9 j_0 i_10 i_11 i_12 i_13 a_6 a_7 a_8 a_9 a_10 a_11 a_12 a_13 a_14 a_15 a_16 a_17 a_18 i_14 i_15 i_16 i_17 i_18 i_19 a_19 i_20 a_20 n19 n20 w2 (mm_wk rv207 (by decide)) w10 w22 w23 (mm_f1_l w25 w4 w2 (by decide))) (cwV 3 hts (mm_gV mm_w713 mm_w714 mm_w715 mm_w5 mm_w716) rfl rfl rfl hd_X12_means0 ⟨by rw [hRf]; exact Nat.le_of_ble_eq_true rfl, by rw [hRl]; exact Nat.le_of_ble_eq_true rfl⟩) (mm_preV hK hZ hS hA hP hD [0, 6, 7] rfl rfl 0 rfl rfl rfl) rfl rfl hl.1 rfl (lv_room (Nat.le_of_ble_eq_true rfl)) dX12_when_60 ⟨by rw [hRc]; exact Nat.le_of_ble_eq_true rfl, by rw [hRs]; exact Nat.le_of_ble_eq_true rfl⟩) hP hD hS hA [0, 6, 7] rfl (fun _ => rfl) ?_
                    clear hP hD hS
                    clear H locs
                    intro v208 _u H locs hw hP hD hS
                    obtain ⟨w209, w210⟩ := hw
                    refine lv_iload_n hx hb dX12_when_63 rfl (lv_at hl 4 rfl) ?_
                    refine lv_icmp_ne (tgt := 73) hx hb dX12_when_64 (by decide) (fun c211 => ?_) (fun c211 => ?_)
                    · obtain ⟨v212, ev212⟩ : ∃ y : Int32, y = x41_5_200 + 1 := ⟨_, rfl⟩
                      refine lv_iinc (v := v212) (lv' := [(5, .int v212), (0, .ref a_0), (1, .int i_0), (2, .int i_1), (3, .int i_2), (4, .int i_3)]) hx hb dX12_when_73 hl (k := 0) rfl (by rw [ev212]; rfl) (by decide) rfl ?_
                      clear hl
                      clear ls
                      intro ls hl
                      have rv212 : mm_rg v212 1 210 := mm_add ev212 q206 mm_k1 (by decide) (by decide)
                      have tv212 := mm_addEc ev212 q206 mm_k1 (by decide) (k := 1) (by decide)
                      refine lv_goto (tgt := 41) hx hb dX12_when_76 (by decide) ?_
                      exact ih41 v212 (mm_wk rv212 (by decide)) (mm_mu hm41 tv212 (by decide) (rv212).2 (by decide)) H locs hP hD hS ls (lv_sub hl [0, 1, 2, 3, 4, 5] rfl)
                    · refine lv_iload hx hb dX12_when_67 (lv_at hl 5 rfl) ?_
                      refine lv_iload hx hb dX12_when_69 (lv_at hl 0 rfl) ?_
                      refine lv_iadd hx hb dX12_when_71 ?_
                      refine lv_topi (fun v213 ev213 => ?_)
                      have rv213 : mm_rg v213 0 1000000209 := mm_add ev213 w3 q206 (by decide) (by decide)
                      have tv213 := mm_addE ev213 w3 q206 (by decide)
                      subst hAe
                      rw [hQ]
                      exact W.iret (v := v213) hx hb hr (fun t ht hW => ⟨⟨v213, (n19, n20, n21), rfl, ⟨w22, w23, w24, (mm_wk rv213 (by decide))⟩, by rw [ht]; exact hP, hK.warm hW, hD⟩, hS.F ht⟩) hS.2.2 dX12_when_72
              exact L41_200 _ 0 (mm_wk mm_k0 (by decide)) (Nat.lt_succ_self _) H locs hP hD hS ls (lv_sub hl [0, 1, 2, 3, 4, 5] rfl)
            · exact mm_eqN c18.symm mm_k0 mm_k1 (by decide)

set_option maxHeartbeats 4000000 in
set_option maxRecDepth 100000 in
theorem M131_X12_oftenOf (l : Launch) (G : va_G) (cy : Nat → ClassId) (sz : Nat) (a_0 : Nat) (i_0 : Int32) (i_1 : Int32) (i_2 : Int32) (i_3 : Int32) (a_1 : Nat) (a_2 : Nat) (a_3 : Nat) (a_4 : Nat) (a_5 : Nat) (i_4 : Int32) (i_5 : Int32) (i_6 : Int32) (i_7 : Int32) (i_8 : Int32) (j_0 : Int64) (i_9 : Int32) (i_10 : Int32) (i_11 : Int32) (i_12 : Int32) (a_6 : Nat) (a_7 : Nat) (a_8 : Nat) (a_9 : Nat) (a_10 : Nat) (a_11 : Nat) (a_12 : Nat) (a_13 : Nat) (a_14 : Nat) (a_15 : Nat) (a_16 : Nat) (a_17 : Nat) (a_18 : Nat) (i_13 : Int32) (i_14 : Int32) (i_15 : Int32) (i_16 : Int32) (i_17 : Int32) (i_18 : Int32) (a_19 : Nat) (i_19 : Int32) (a_20 : Nat) (f_0 : Nat → Int32) (f_1 : Nat → Int32) (f_2 : Nat → Int32) (h0 : mm_rg i_0 0 2) (h1 : mm_rg i_1 0 9) (h2 : mm_rg i_2 0 9) (h3 : mm_ar f_0 0 9) (h4 : mm_ar f_1 0 210) (h5 : mm_ar f_2 0 210) (h6 : mm_f1 f_1 i_0)  : mm_CI l yX12_oftenOf (mm_ws yX12_oftenOf cX12_oftenOf 6 (some .int)) ({ frames := 1, cells := 0, slots := 0, locals := 23 } : Room) G cy sz [(a_0, .inr (12, [.int i_3, .ref a_1, .ref a_2, .ref a_3, .ref a_4, .ref a_5, .int i_4, .int i_5, .int i_6, .int i_7, .int i_8, .long j_0, .int i_9, .int i_10, .int i_11, .int i_12, .ref a_6, .ref a_7, .ref a_8, .ref a_9, .ref a_10, .ref a_11, .ref a_12, .ref a_13, .ref a_14, .ref a_15, .ref a_16, .ref a_17, .ref a_18, .int i_13, .int i_14, .int i_15, .int i_16, .int i_17, .int i_18, .ref a_19, .int i_19, .ref a_20])), (a_15, .inl (cy 1, 7200, .inl f_0)), (a_16, .inl (cy 1, 3, .inl f_1)), (a_17, .inl (cy 1, 3, .inl f_2))] [.ref a_0, .int i_0, .int i_1, .int i_2] (fun u : Unit => [(a_0, .inr (12, [.int i_3, .ref a_1, .ref a_2, .ref a_3, .ref a_4, .ref a_5, .int i_4, .int i_5, .int i_6, .int i_7, .int i_8, .long j_0, .int i_9, .int i_10, .int i_11, .int i_12, .ref a_6, .ref a_7, .ref a_8, .ref a_9, .ref a_10, .ref a_11, .ref a_12, .ref a_13, .ref a_14, .ref a_15, .ref a_16, .ref a_17, .ref a_18, .int i_13, .int i_14, .int i_15, .int i_16, .int i_17, .int i_18, .ref a_19, .int i_19, .ref a_20])), (a_15, .inl (cy 1, 7200, .inl f_0)), (a_16, .inl (cy 1, 3, .inl f_1)), (a_17, .inl (cy 1, 3, .inl f_2))]) (fun (r : Int32) (u : Unit) => True) 0 0 := by
  refine mm_begin (lv := [(0, .ref a_0), (1, .int i_0), (2, .int i_1), (3, .int i_2)]) (by decide) (Nat.le_of_ble_eq_true rfl) rfl ?_
  intro p e s m below meth c A ls R args Q H locs hRe hQ hAe hx hb hr hlocks hml hown hnm hts hsz hA hS hP hK hD hZ hl
  have hRf : R.frames = 1 := by rw [hRe]
  have hRl : R.locals = 23 := by rw [hRe]
  have hRc : R.cells = 0 := by rw [hRe]
  have hRs : R.slots = 0 := by rw [hRe]
  refine lv_iconst (v := 0) hx hb dX12_oftenOf_0 (by decide) ?_
  refine lv_istore (lv' := [(4, .int 0), (0, .ref a_0), (1, .int i_0), (2, .int i_1), (3, .int i_2)]) hx hb dX12_oftenOf_1 hl (by decide) rfl ?_
  clear hl
  clear ls
  intro ls hl
  refine lv_iconst (v := 0) hx hb dX12_oftenOf_3 (by decide) ?_
  refine lv_istore (lv' := [(5, .int 0), (4, .int 0), (0, .ref a_0), (1, .int i_0), (2, .int i_1), (3, .int i_2)]) hx hb dX12_oftenOf_4 hl (by decide) rfl ?_
  clear hl
  clear ls
  intro ls hl
  have L6_288 : ∀ (n : Nat) (x6_5_287 : Int32) (x6_4_288 : Int32), mm_rg x6_5_287 0 210 → (210 - x6_5_287.toInt).toNat < n → ∀ (H : Heap) (locs : List Loc), va_P G vwCl [(a_0, .inr (12, [.int i_3, .ref a_1, .ref a_2, .ref a_3, .ref a_4, .ref a_5, .int i_4, .int i_5, .int i_6, .int i_7, .int i_8, .long j_0, .int i_9, .int i_10, .int i_11, .int i_12, .ref a_6, .ref a_7, .ref a_8, .ref a_9, .ref a_10, .ref a_11, .ref a_12, .ref a_13, .ref a_14, .ref a_15, .ref a_16, .ref a_17, .ref a_18, .int i_13, .int i_14, .int i_15, .int i_16, .int i_17, .int i_18, .ref a_19, .int i_19, .ref a_20])), (a_15, .inl (cy 1, 7200, .inl f_0)), (a_16, .inl (cy 1, 3, .inl f_1)), (a_17, .inl (cy 1, 3, .inl f_2))] H → va_D A [(a_0, .inr (12, [.int i_3, .ref a_1, .ref a_2, .ref a_3, .ref a_4, .ref a_5, .int i_4, .int i_5, .int i_6, .int i_7, .int i_8, .long j_0, .int i_9, .int i_10, .int i_11, .int i_12, .ref a_6, .ref a_7, .ref a_8, .ref a_9, .ref a_10, .ref a_11, .ref a_12, .ref a_13, .ref a_14, .ref a_15, .ref a_16, .ref a_17, .ref a_18, .int i_13, .int i_14, .int i_15, .int i_16, .int i_17, .int i_18, .ref a_19, .int i_19, .ref a_20])), (a_15, .inl (cy 1, 7200, .inl f_0)), (a_16, .inl (cy 1, 3, .inl f_1)), (a_17, .inl (cy 1, 3, .inl f_2))] → va_S A s.heap H locs → ∀ (ls : Array Slot), lv_has ls 6 [(5, .int x6_5_287), (4, .int x6_4_288), (0, .ref a_0), (1, .int i_0), (2, .int i_1), (3, .int i_2)] → W p l e R s m args below meth c H locs 0 0 Q (F0 m 6 ls []) := by
    intro n
    induction n with
    | zero => intro x6_5_287 x6_4_288 rx6_5_287 hm; exact absurd hm (Nat.not_lt_zero _)
    | succ n ih6 =>
      intro x6_5_287 x6_4_288 rx6_5_287 hm6 H locs hP hD hS ls hl
      refine lv_iload hx hb dX12_oftenOf_6 (lv_at hl 0 rfl) ?_
      refine lv_aload_n hx hb dX12_oftenOf_8 rfl (lv_at hl 2 rfl) ?_
      refine va_get (D := G) (ci := 12) (v := .ref a_17) (C := RX12) (T := TX12) (N := 38) hx hb hts (mm_i inlX12) hown hK.1 hP 0 rfl rfl 27 (by decide) (mm_h hts mm_w159) (fun _ h9 => h9) rfl dX12_oftenOf_9 ?_
      refine lv_iload_n hx hb dX12_oftenOf_12 rfl (lv_at hl 3 rfl) ?_
      refine va_iald hx hb hK.1 hP 3 1 rfl rfl (mm_in h0 (by decide)) dX12_oftenOf_13 ?_
      refine lv_topi (fun v290 ev290 => ?_)
      have rv290 : mm_rg v290 0 210 := mm_eqv ev290 (h5 _)
      refine lv_icmp_ge (tgt := 45) hx hb dX12_oftenOf_14 (by decide) (fun c291 => ?_) (fun c291 => ?_)
      · refine lv_iload hx hb dX12_oftenOf_45 (lv_at hl 1 rfl) ?_
        subst hAe
        rw [hQ]
        exact W.iret (v := x6_4_288) hx hb hr (fun t ht hW => ⟨⟨x6_4_288, (), rfl, trivial, by rw [ht]; exact hP, hK.warm hW, hD⟩, hS.F ht⟩) hS.2.2 dX12_oftenOf_47
      · have q292 := mm_ltL (h := 209) (mm_nle c291) rx6_5_287 rv290 (by decide)
        have q293 := mm_ltR (lo := 1) (mm_nle c291) rx6_5_287 rv290 (by decide)
        refine lv_iload hx hb dX12_oftenOf_17 (lv_at hl 1 rfl) ?_
        refine lv_aload_n hx hb dX12_oftenOf_19 rfl (lv_at hl 2 rfl) ?_
        refine lv_iload_n hx hb dX12_oftenOf_20 rfl (lv_at hl 3 rfl) ?_
        refine lv_iload hx hb dX12_oftenOf_21 (lv_at hl 0 rfl) ?_
        refine lv_iload_n hx hb dX12_oftenOf_23 rfl (lv_at hl 4 rfl) ?_
        refine mm_finir (va_runV (As := [.int i_0, .int x6_5_287, .int i_1]) (rest := [.int x6_4_288]) ⟨hx, hb, hml, hown, hts⟩ (M122_X12_means0 l G cy H.size a_0 i_0 x6_5_287 i_1 i_3 a_1 a_2 a_3 a_4 a_5 i_4 i_5 i_6 i_7 i_8 j_0 i_9 i_10 i_11 i_12 a_6 a_7 a_8 a_9 a_10 a_11 a_12 a_13 a_14 a_15 a_16 a_17 a_18 i_13 i_14 i_15 i_16 i_17 i_18 a_19 i_19 a_20 f_0 f_1 h0 (mm_wk q292 (by decide)) h1 h3 h4 h6) (cwV 3 hts (mm_gV mm_w713 mm_w714 mm_w715 mm_w5 mm_w716) rfl rfl rfl hd_X12_means0 ⟨by rw [hRf]; exact Nat.le_of_ble_eq_true rfl, by rw [hRl]; exact Nat.le_of_ble_eq_true rfl⟩) (mm_preV hK hZ hS hA hP hD [0, 1, 2] rfl rfl 0 rfl rfl rfl) rfl rfl hl.1 rfl (lv_room (Nat.le_of_ble_eq_true rfl)) dX12_oftenOf_24 ⟨by rw [hRc]; exact Nat.le_of_ble_eq_true rfl, by rw [hRs]; exact Nat.le_of_ble_eq_true rfl⟩) hP hD hS hA [0, 1, 2] rfl (fun _ => rfl) ?_
        clear hP hD hS
        clear H locs
        intro v294 _u H locs hw hP hD hS
        obtain ⟨w295, w296⟩ := hw
        refine lv_iload_n hx hb dX12_oftenOf_27 rfl (lv_at hl 5 rfl) ?_
        refine lv_icmp_ne (tgt := 35) hx hb dX12_oftenOf_28 (by decide) (fun c297 => ?_) (fun c297 => ?_)
        · refine lv_iconst (v := 0) hx hb dX12_oftenOf_35 (by decide) ?_
          refine lv_iadd hx hb dX12_oftenOf_36 ?_
          refine lv_topi (fun v298 ev298 => ?_)
          have rv298 : mm_rg v298 (-2147483648) 2147483647 := mm_add ev298 (mm_top x6_4_288) mm_k0 (by decide) (by decide)
          have tv298 := mm_addEc ev298 (mm_top x6_4_288) mm_k0 (by decide) (k := 0) (by decide)
          refine lv_istore (lv' := [(4, .int v298), (5, .int x6_5_287), (0, .ref a_0), (1, .int i_0), (2, .int i_1), (3, .int i_2)]) hx hb dX12_oftenOf_37 hl (by decide) rfl ?_
          clear hl
          clear ls
          intro ls hl
          obtain ⟨v299, ev299⟩ : ∃ y : Int32, y = x6_5_287 + 1 := ⟨_, rfl⟩
          refine lv_iinc (v := v299) (lv' := [(5, .int v299), (4, .int v298), (0, .ref a_0), (1, .int i_0), (2, .int i_1), (3, .int i_2)]) hx hb dX12_oftenOf_39 hl (k := 1) rfl (by rw [ev299]; rfl) (by decide) rfl ?_
          clear hl
          clear ls
          intro ls hl
          have rv299 : mm_rg v299 1 210 := mm_add ev299 q292 mm_k1 (by decide) (by decide)
          have tv299 := mm_addEc ev299 q292 mm_k1 (by decide) (k := 1) (by decide)
          refine lv_goto (tgt := 6) hx hb dX12_oftenOf_42 (by decide) ?_
          exact ih6 v299 v298 (mm_wk rv299 (by decide)) (mm_mu hm6 tv299 (by decide) (rv299).2 (by decide)) H locs hP hD hS ls (lv_sub hl [0, 1, 2, 3, 4, 5] rfl)
        · refine lv_iconst (v := 1) hx hb dX12_oftenOf_31 (by decide) ?_
          refine lv_goto (tgt := 36) hx hb dX12_oftenOf_32 (by decide) ?_
          refine lv_iadd hx hb dX12_oftenOf_36 ?_
          refine lv_topi (fun v300 ev300 => ?_)
          refine lv_istore (lv' := [(4, .int v300), (5, .int x6_5_287), (0, .ref a_0), (1, .int i_0), (2, .int i_1), (3, .int i_2)]) hx hb dX12_oftenOf_37 hl (by decide) rfl ?_
          clear hl
          clear ls
          intro ls hl
          obtain ⟨v301, ev301⟩ : ∃ y : Int32, y = x6_5_287 + 1 := ⟨_, rfl⟩
          refine lv_iinc (v := v301) (lv' := [(5, .int v301), (4, .int v300), (0, .ref a_0), (1, .int i_0), (2, .int i_1), (3, .int i_2)]) hx hb dX12_oftenOf_39 hl (k := 1) rfl (by rw [ev301]; rfl) (by decide) rfl ?_
          clear hl
          clear ls
          intro ls hl
          have rv301 : mm_rg v301 1 210 := mm_add ev301 q292 mm_k1 (by decide) (by decide)
          have tv301 := mm_addEc ev301 q292 mm_k1 (by decide) (k := 1) (by decide)
          refine lv_goto (tgt := 6) hx hb dX12_oftenOf_42 (by decide) ?_
          exact ih6 v301 v300 (mm_wk rv301 (by decide)) (mm_mu hm6 tv301 (by decide) (rv301).2 (by decide)) H locs hP hD hS ls (lv_sub hl [0, 1, 2, 3, 4, 5] rfl)
  exact L6_288 _ 0 0 (mm_wk mm_k0 (by decide)) (Nat.lt_succ_self _) H locs hP hD hS ls (lv_sub hl [0, 1, 2, 3, 4, 5] rfl)

set_option maxHeartbeats 4000000 in
set_option maxRecDepth 100000 in
theorem M132_X12_often (l : Launch) (G : va_G) (cy : Nat → ClassId) (sz : Nat) (a_0 : Nat) (i_0 : Int32) (i_1 : Int32) (i_2 : Int32) (i_3 : Int32) (a_1 : Nat) (a_2 : Nat) (a_3 : Nat) (a_4 : Nat) (a_5 : Nat) (i_4 : Int32) (i_5 : Int32) (i_6 : Int32) (i_7 : Int32) (i_8 : Int32) (j_0 : Int64) (i_9 : Int32) (i_10 : Int32) (i_11 : Int32) (i_12 : Int32) (a_6 : Nat) (a_7 : Nat) (a_8 : Nat) (a_9 : Nat) (a_10 : Nat) (a_11 : Nat) (a_12 : Nat) (a_13 : Nat) (a_14 : Nat) (a_15 : Nat) (a_16 : Nat) (a_17 : Nat) (a_18 : Nat) (i_13 : Int32) (i_14 : Int32) (i_15 : Int32) (i_16 : Int32) (i_17 : Int32) (i_18 : Int32) (a_19 : Nat) (i_19 : Int32) (a_20 : Nat) (i_20 : Int32) (i_21 : Int32) (i_22 : Int32) (i_23 : Int32) (i_24 : Int32) (i_25 : Int32) (i_26 : Int32) (i_27 : Int32) (i_28 : Int32) (i_29 : Int32) (i_30 : Int32) (i_31 : Int32) (i_32 : Int32) (i_33 : Int32) (i_34 : Int32) (i_35 : Int32) (i_36 : Int32) (i_37 : Int32) (i_38 : Int32) (i_39 : Int32) (i_40 : Int32) (i_41 : Int32) (i_42 : Int32) (i_43 : Int32) (i_44 : Int32) (i_45 : Int32) (i_46 : Int32) (i_47 : Int32) (i_48 : Int32) (i_49 : Int32) (i_50 : Int32) (i_51 : Int32) (i_52 : Int32) (i_53 : Int32) (i_54 : Int32) (f_0 : Nat → Int32) (f_1 : Nat → Int32) (f_2 : Nat → Int32) (f_3 : Nat → Int32) (f_4 : Nat → Int32) (f_5 : Nat → Int32) (h0 : mm_rg i_20 0 601) (h1 : mm_rg i_21 0 601) (h2 : mm_rg i_22 0 601) (h3 : mm_rg i_23 0 601) (h4 : mm_rg i_24 0 601) (h5 : mm_rg i_25 0 10) (h6 : mm_rg i_26 0 99) (h7 : mm_rg i_27 0 9) (h8 : mm_rg i_28 0 3) (h9 : mm_rg i_29 0 6) (h10 : mm_rg i_30 0 30) (h11 : mm_rg i_31 0 10) (h12 : mm_rg i_32 0 99) (h13 : mm_rg i_33 0 9) (h14 : mm_rg i_34 0 3) (h15 : mm_rg i_35 0 6) (h16 : mm_rg i_36 0 30) (h17 : mm_rg i_37 0 10) (h18 : mm_rg i_38 0 99) (h19 : mm_rg i_39 0 9) (h20 : mm_rg i_40 0 3) (h21 : mm_rg i_41 0 6) (h22 : mm_rg i_42 0 30) (h23 : mm_rg i_43 0 10) (h24 : mm_rg i_44 0 99) (h25 : mm_rg i_45 0 9) (h26 : mm_rg i_46 0 3) (h27 : mm_rg i_47 0 6) (h28 : mm_rg i_48 0 30) (h29 : mm_rg i_49 0 10) (h30 : mm_rg i_50 0 99) (h31 : mm_rg i_51 0 9) (h32 : mm_rg i_52 0 3) (h33 : mm_rg i_53 0 6) (h34 : mm_rg i_54 0 30) (h35 : mm_ar f_0 0 7) (h36 : mm_ar f_1 0 9) (h37 : mm_ar f_2 (-1) 99) (h38 : mm_ar f_3 0 9) (h39 : mm_ar f_4 0 210) (h40 : mm_ar f_5 0 210) (h41 : mm_rls f_0 f_1 0 i_27 i_28) (h42 : mm_acs f_2 0 i_27 i_28 i_30) (h43 : mm_tl i_20 i_28 i_29) (h44 : mm_rls f_0 f_1 1 i_33 i_34) (h45 : mm_acs f_2 1 i_33 i_34 i_36) (h46 : mm_tl i_21 i_34 i_35) (h47 : mm_rls f_0 f_1 2 i_39 i_40) (h48 : mm_acs f_2 2 i_39 i_40 i_42) (h49 : mm_tl i_22 i_40 i_41) (h50 : mm_rls f_0 f_1 3 i_45 i_46) (h51 : mm_acs f_2 3 i_45 i_46 i_48) (h52 : mm_tl i_23 i_46 i_47)  : mm_CI l yX12_often (mm_ws yX12_often cX12_often 4 (some .int)) ({ frames := 14, cells := 0, slots := 0, locals := 300 } : Room) G cy sz [(a_0, .inr (12, [.int i_3, .ref a_1, .ref a_2, .ref a_3, .ref a_4, .ref a_5, .int i_4, .int i_5, .int i_6, .int i_7, .int i_8, .long j_0, .int i_9, .int i_10, .int i_11, .int i_12, .ref a_6, .ref a_7, .ref a_8, .ref a_9, .ref a_10, .ref a_11, .ref a_12, .ref a_13, .ref a_14, .ref a_15, .ref a_16, .ref a_17, .ref a_18, .int i_13, .int i_14, .int i_15, .int i_16, .int i_17, .int i_18, .ref a_19, .int i_19, .ref a_20])), (a_6, .inl (cy 1, 5, .inl (mm_g [i_20, i_21, i_22, i_23, i_24]))), (a_7, .inl (cy 1, 30, .inl (mm_g [i_25, i_26, i_27, i_28, i_29, i_30, i_31, i_32, i_33, i_34, i_35, i_36, i_37, i_38, i_39, i_40, i_41, i_42, i_43, i_44, i_45, i_46, i_47, i_48, i_49, i_50, i_51, i_52, i_53, i_54]))), (a_9, .inl (cy 1, 15, .inl f_0)), (a_10, .inl (cy 1, 1050, .inl f_1)), (a_13, .inl (cy 1, 450, .inl f_2)), (a_15, .inl (cy 1, 7200, .inl f_3)), (a_16, .inl (cy 1, 3, .inl f_4)), (a_17, .inl (cy 1, 3, .inl f_5))] [.ref a_0, .int i_0, .int i_1, .int i_2] (fun u : (Nat → Int32) × (Nat → Int32) × (Nat → Int32) => [(a_0, .inr (12, [.int 0, .ref a_1, .ref a_2, .ref a_3, .ref a_4, .ref a_5, .int i_4, .int i_5, .int i_6, .int i_7, .int i_8, .long j_0, .int i_9, .int i_10, .int i_11, .int i_12, .ref a_6, .ref a_7, .ref a_8, .ref a_9, .ref a_10, .ref a_11, .ref a_12, .ref a_13, .ref a_14, .ref a_15, .ref a_16, .ref a_17, .ref a_18, .int i_13, .int i_14, .int i_15, .int i_16, .int i_17, .int i_18, .ref a_19, .int i_19, .ref a_20])), (a_6, .inl (cy 1, 5, .inl (mm_g [i_20, i_21, i_22, i_23, i_24]))), (a_7, .inl (cy 1, 30, .inl (mm_g [i_25, i_26, i_27, i_28, i_29, i_30, i_31, i_32, i_33, i_34, i_35, i_36, i_37, i_38, i_39, i_40, i_41, i_42, i_43, i_44, i_45, i_46, i_47, i_48, i_49, i_50, i_51, i_52, i_53, i_54]))), (a_9, .inl (cy 1, 15, .inl f_0)), (a_10, .inl (cy 1, 1050, .inl f_1)), (a_13, .inl (cy 1, 450, .inl f_2)), (a_15, .inl (cy 1, 7200, .inl u.1)), (a_16, .inl (cy 1, 3, .inl u.2.1)), (a_17, .inl (cy 1, 3, .inl u.2.2))]) (fun (r : Int32) (u : (Nat → Int32) × (Nat → Int32) × (Nat → Int32)) => mm_ar u.1 0 9 ∧ mm_ar u.2.1 0 210 ∧ mm_ar u.2.2 0 210 ∧ True) 0 0 := by
  refine mm_begin (lv := [(0, .ref a_0), (1, .int i_0), (2, .int i_1), (3, .int i_2)]) (by decide) (Nat.le_of_ble_eq_true rfl) rfl ?_
  intro p e s m below meth c A ls R args Q H locs hRe hQ hAe hx hb hr hlocks hml hown hnm hts hsz hA hS hP hK hD hZ hl
  have hRf : R.frames = 14 := by rw [hRe]
  have hRl : R.locals = 300 := by rw [hRe]
  have hRc : R.cells = 0 := by rw [hRe]
  have hRs : R.slots = 0 := by rw [hRe]
  refine lv_aload_n hx hb dX12_often_0 rfl (lv_at hl 0 rfl) ?_
  refine lv_iconst (v := 0) hx hb dX12_often_1 (by decide) ?_
  refine va_put (D := G) (ci := 12) (v := .int 0) (ty := tyX12 0) (C := RX12) (T := TX12) (N := 38) hx hb hts (mm_i inlX12) tyX12 tyX12_ok nmX12 hown hK.1 hP hD hS 0 rfl rfl 0 (by decide) (mm_h hts mm_w177) (fun _ h9 => h9) rfl (tyX12_ok 0 (by decide)) rfl rfl (Nat.le_of_ble_eq_true rfl) dX12_often_2 ?_
  clear hP hD hS
  clear H locs
  intro H locs (hP : va_P G vwCl [(a_0, .inr (12, [.int 0, .ref a_1, .ref a_2, .ref a_3, .ref a_4, .ref a_5, .int i_4, .int i_5, .int i_6, .int i_7, .int i_8, .long j_0, .int i_9, .int i_10, .int i_11, .int i_12, .ref a_6, .ref a_7, .ref a_8, .ref a_9, .ref a_10, .ref a_11, .ref a_12, .ref a_13, .ref a_14, .ref a_15, .ref a_16, .ref a_17, .ref a_18, .int i_13, .int i_14, .int i_15, .int i_16, .int i_17, .int i_18, .ref a_19, .int i_19, .ref a_20])), (a_6, .inl (cy 1, 5, .inl (mm_g [i_20, i_21, i_22, i_23, i_24]))), (a_7, .inl (cy 1, 30, .inl (mm_g [i_25, i_26, i_27, i_28, i_29, i_30, i_31, i_32, i_33, i_34, i_35, i_36, i_37, i_38, i_39, i_40, i_41, i_42, i_43, i_44, i_45, i_46, i_47, i_48, i_49, i_50, i_51, i_52, i_53, i_54]))), (a_9, .inl (cy 1, 15, .inl f_0)), (a_10, .inl (cy 1, 1050, .inl f_1)), (a_13, .inl (cy 1, 450, .inl f_2)), (a_15, .inl (cy 1, 7200, .inl f_3)), (a_16, .inl (cy 1, 3, .inl f_4)), (a_17, .inl (cy 1, 3, .inl f_5))] H) (hD : va_D A [(a_0, .inr (12, [.int 0, .ref a_1, .ref a_2, .ref a_3, .ref a_4, .ref a_5, .int i_4, .int i_5, .int i_6, .int i_7, .int i_8, .long j_0, .int i_9, .int i_10, .int i_11, .int i_12, .ref a_6, .ref a_7, .ref a_8, .ref a_9, .ref a_10, .ref a_11, .ref a_12, .ref a_13, .ref a_14, .ref a_15, .ref a_16, .ref a_17, .ref a_18, .int i_13, .int i_14, .int i_15, .int i_16, .int i_17, .int i_18, .ref a_19, .int i_19, .ref a_20])), (a_6, .inl (cy 1, 5, .inl (mm_g [i_20, i_21, i_22, i_23, i_24]))), (a_7, .inl (cy 1, 30, .inl (mm_g [i_25, i_26, i_27, i_28, i_29, i_30, i_31, i_32, i_33, i_34, i_35, i_36, i_37, i_38, i_39, i_40, i_41, i_42, i_43, i_44, i_45, i_46, i_47, i_48, i_49, i_50, i_51, i_52, i_53, i_54]))), (a_9, .inl (cy 1, 15, .inl f_0)), (a_10, .inl (cy 1, 1050, .inl f_1)), (a_13, .inl (cy 1, 450, .inl f_2)), (a_15, .inl (cy 1, 7200, .inl f_3)), (a_16, .inl (cy 1, 3, .inl f_4)), (a_17, .inl (cy 1, 3, .inl f_5))]) hS
  refine lv_aload_n hx hb dX12_often_5 rfl (lv_at hl 0 rfl) ?_
  refine lv_iload_n hx hb dX12_often_6 rfl (lv_at hl 1 rfl) ?_
  refine mm_finir (va_runV (As := [.int i_0]) (rest := []) ⟨hx, hb, hml, hown, hts⟩ (M98_X12_isLand l G cy H.size a_0 i_0 0 a_1 a_2 a_3 a_4 a_5 i_4 i_5 i_6 i_7 i_8 j_0 i_9 i_10 i_11 i_12 a_6 a_7 a_8 a_9 a_10 a_11 a_12 a_13 a_14 a_15 a_16 a_17 a_18 i_13 i_14 i_15 i_16 i_17 i_18 a_19 i_19 a_20 i_25 i_26 i_27 i_28 i_29 i_30 i_31 i_32 i_33 i_34 i_35 i_36 i_37 i_38 i_39 i_40 i_41 i_42 i_43 i_44 i_45 i_46 i_47 i_48 i_49 i_50 i_51 i_52 i_53 i_54 h5 h6 h7 h8 h9 h10 h11 h12 h13 h14 h15 h16 h17 h18 h19 h20 h21 h22 h23 h24 h25 h26 h27 h28 h29 h30 h31 h32 h33 h34) (cwV 1 hts (mm_gV mm_w641 mm_w642 mm_w643 mm_w5 mm_w644) rfl rfl rfl hd_X12_isLand ⟨by rw [hRf]; exact Nat.le_of_ble_eq_true rfl, by rw [hRl]; exact Nat.le_of_ble_eq_true rfl⟩) (mm_preV hK hZ hS hA hP hD [0, 2] rfl rfl 0 rfl rfl rfl) rfl rfl hl.1 rfl (lv_room (Nat.le_of_ble_eq_true rfl)) dX12_often_7 ⟨by rw [hRc]; exact Nat.le_of_ble_eq_true rfl, by rw [hRs]; exact Nat.le_of_ble_eq_true rfl⟩) hP hD hS hA [0, 2] rfl (fun _ => rfl) ?_
  clear hP hD hS
  clear H locs
  intro v1 _u H locs hw hP hD hS
  rcases hw with rfl | ⟨rfl, w2, w3⟩
  · refine lv_if_eq (tgt := 29) hx hb dX12_often_10 (by decide) (fun c4 => ?_) (fun c4 => ?_)
    · refine lv_bipush (v := (-2)) hx hb dX12_often_29 (by decide) ?_
      subst hAe
      rw [hQ]
      exact W.iret (v := (-2)) hx hb hr (fun t ht hW => ⟨⟨(-2), (f_3, f_4, f_5), rfl, ⟨h38, h39, h40, trivial⟩, by rw [ht]; exact hP, hK.warm hW, hD⟩, hS.F ht⟩) hS.2.2 dX12_often_31
    · exact absurd rfl (mm_ne c4)
  · have q5 := mm_ltR (lo := 1) w3 w2 h8 (by decide)
    have q6 : mm_rg i_20 1 601 := mm_tl_3 h43 q5 h0 (by decide)
    refine lv_if_eq (tgt := 29) hx hb dX12_often_10 (by decide) (fun c7 => ?_) (fun c7 => ?_)
    · exact mm_eqN c7.symm mm_k0 mm_k1 (by decide)
    · refine lv_aload_n hx hb dX12_often_13 rfl (lv_at hl 0 rfl) ?_
      refine lv_iload_n hx hb dX12_often_14 rfl (lv_at hl 2 rfl) ?_
      refine mm_finir (va_runV (As := [.int i_1]) (rest := []) ⟨hx, hb, hml, hown, hts⟩ (M101_X12_isWord l G cy H.size a_0 i_1 0 a_1 a_2 a_3 a_4 a_5 i_4 i_5 i_6 i_7 i_8 j_0 i_9 i_10 i_11 i_12 a_6 a_7 a_8 a_9 a_10 a_11 a_12 a_13 a_14 a_15 a_16 a_17 a_18 i_13 i_14 i_15 i_16 i_17 i_18 a_19 i_19 a_20 i_20 i_21 i_22 i_23 i_24 i_25 i_26 i_27 i_28 i_29 i_30 i_31 i_32 i_33 i_34 i_35 i_36 i_37 i_38 i_39 i_40 i_41 i_42 i_43 i_44 i_45 i_46 i_47 i_48 i_49 i_50 i_51 i_52 i_53 i_54 q6 h1 h2 h3 h4 h5 h6 h7 (mm_wk q5 (by decide)) h9 h10 h11 h12 h13 h14 h15 h16 h17 h18 h19 h20 h21 h22 h23 h24 h25 h26 h27 h28 h29 h30 h31 h32 h33 h34 h43 h46 h49 h52) (cwV 1 hts (mm_gV mm_w645 mm_w646 mm_w647 mm_w5 mm_w648) rfl rfl rfl hd_X12_isWord ⟨by rw [hRf]; exact Nat.le_of_ble_eq_true rfl, by rw [hRl]; exact Nat.le_of_ble_eq_true rfl⟩) (mm_preV hK hZ hS hA hP hD [0, 1, 2] rfl rfl 0 rfl rfl rfl) rfl rfl hl.1 rfl (lv_room (Nat.le_of_ble_eq_true rfl)) dX12_often_15 ⟨by rw [hRc]; exact Nat.le_of_ble_eq_true rfl, by rw [hRs]; exact Nat.le_of_ble_eq_true rfl⟩) hP hD hS hA [0, 1, 2] rfl (fun _ => rfl) ?_
      clear hP hD hS
      clear H locs
      intro v8 _u H locs hw hP hD hS
      rcases hw with rfl | ⟨rfl, w9, w10⟩
      · refine lv_if_eq (tgt := 29) hx hb dX12_often_18 (by decide) (fun c11 => ?_) (fun c11 => ?_)
        · refine lv_bipush (v := (-2)) hx hb dX12_often_29 (by decide) ?_
          subst hAe
          rw [hQ]
          exact W.iret (v := (-2)) hx hb hr (fun t ht hW => ⟨⟨(-2), (f_3, f_4, f_5), rfl, ⟨h38, h39, h40, trivial⟩, by rw [ht]; exact hP, hK.warm hW, hD⟩, hS.F ht⟩) hS.2.2 dX12_often_31
        · exact absurd rfl (mm_ne c11)
      · refine lv_if_eq (tgt := 29) hx hb dX12_often_18 (by decide) (fun c12 => ?_) (fun c12 => ?_)
        · exact mm_eqN c12.symm mm_k0 mm_k1 (by decide)
        · refine lv_aload_n hx hb dX12_often_21 rfl (lv_at hl 0 rfl) ?_
          refine lv_iload_n hx hb dX12_often_22 rfl (lv_at hl 3 rfl) ?_
          refine mm_finir (va_runV (As := [.int i_2]) (rest := []) ⟨hx, hb, hml, hown, hts⟩ (M101_X12_isWord l G cy H.size a_0 i_2 0 a_1 a_2 a_3 a_4 a_5 i_4 i_5 i_6 i_7 i_8 j_0 i_9 i_10 i_11 i_12 a_6 a_7 a_8 a_9 a_10 a_11 a_12 a_13 a_14 a_15 a_16 a_17 a_18 i_13 i_14 i_15 i_16 i_17 i_18 a_19 i_19 a_20 i_20 i_21 i_22 i_23 i_24 i_25 i_26 i_27 i_28 i_29 i_30 i_31 i_32 i_33 i_34 i_35 i_36 i_37 i_38 i_39 i_40 i_41 i_42 i_43 i_44 i_45 i_46 i_47 i_48 i_49 i_50 i_51 i_52 i_53 i_54 q6 h1 h2 h3 h4 h5 h6 h7 (mm_wk q5 (by decide)) h9 h10 h11 h12 h13 h14 h15 h16 h17 h18 h19 h20 h21 h22 h23 h24 h25 h26 h27 h28 h29 h30 h31 h32 h33 h34 h43 h46 h49 h52) (cwV 1 hts (mm_gV mm_w645 mm_w646 mm_w647 mm_w5 mm_w648) rfl rfl rfl hd_X12_isWord ⟨by rw [hRf]; exact Nat.le_of_ble_eq_true rfl, by rw [hRl]; exact Nat.le_of_ble_eq_true rfl⟩) (mm_preV hK hZ hS hA hP hD [0, 1, 2] rfl rfl 0 rfl rfl rfl) rfl rfl hl.1 rfl (lv_room (Nat.le_of_ble_eq_true rfl)) dX12_often_23 ⟨by rw [hRc]; exact Nat.le_of_ble_eq_true rfl, by rw [hRs]; exact Nat.le_of_ble_eq_true rfl⟩) hP hD hS hA [0, 1, 2] rfl (fun _ => rfl) ?_
          clear hP hD hS
          clear H locs
          intro v13 _u H locs hw hP hD hS
          rcases hw with rfl | ⟨rfl, w14, w15⟩
          · refine lv_if_ne (tgt := 32) hx hb dX12_often_26 (by decide) (fun c16 => ?_) (fun c16 => ?_)
            · exact absurd rfl (mm_ne c16)
            · refine lv_bipush (v := (-2)) hx hb dX12_often_29 (by decide) ?_
              subst hAe
              rw [hQ]
              exact W.iret (v := (-2)) hx hb hr (fun t ht hW => ⟨⟨(-2), (f_3, f_4, f_5), rfl, ⟨h38, h39, h40, trivial⟩, by rw [ht]; exact hP, hK.warm hW, hD⟩, hS.F ht⟩) hS.2.2 dX12_often_31
          · refine lv_if_ne (tgt := 32) hx hb dX12_often_26 (by decide) (fun c17 => ?_) (fun c17 => ?_)
            · refine lv_aload_n hx hb dX12_often_32 rfl (lv_at hl 0 rfl) ?_
              refine mm_finv (va_runV (As := []) (rest := []) ⟨hx, hb, hml, hown, hts⟩ (M125_X12_lays l G cy H.size a_0 0 a_1 a_2 a_3 a_4 a_5 i_4 i_5 i_6 i_7 i_8 j_0 i_9 i_10 i_11 i_12 a_6 a_7 a_8 a_9 a_10 a_11 a_12 a_13 a_14 a_15 a_16 a_17 a_18 i_13 i_14 i_15 i_16 i_17 i_18 a_19 i_19 a_20 i_20 i_21 i_22 i_23 i_24 i_25 i_26 i_27 i_28 i_29 i_30 i_31 i_32 i_33 i_34 i_35 i_36 i_37 i_38 i_39 i_40 i_41 i_42 i_43 i_44 i_45 i_46 i_47 i_48 i_49 i_50 i_51 i_52 i_53 i_54 f_0 f_1 f_2 f_3 f_4 f_5 (mm_wk q6 (by decide)) h1 h2 h3 h4 h5 h6 h7 (mm_wk q5 (by decide)) h9 h10 h11 h12 h13 h14 h15 h16 h17 h18 h19 h20 h21 h22 h23 h24 h25 h26 h27 h28 h29 h30 h31 h32 h33 h34 h35 h36 h37 h38 h39 h40 h41 h42 h43 h44 h45 h46 h47 h48 h49 h50 h51 h52) (cwV 0 hts (mm_gV mm_w686 mm_w687 mm_w688 mm_w5 mm_w689) rfl rfl rfl hd_X12_lays ⟨by rw [hRf]; exact Nat.le_of_ble_eq_true rfl, by rw [hRl]; exact Nat.le_of_ble_eq_true rfl⟩) (mm_preV hK hZ hS hA hP hD [0, 1, 2, 3, 4, 5, 6, 7, 8] rfl rfl 0 rfl rfl rfl) rfl rfl hl.1 rfl (lv_room (Nat.le_of_ble_eq_true rfl)) dX12_often_33 ⟨by rw [hRc]; exact Nat.le_of_ble_eq_true rfl, by rw [hRs]; exact Nat.le_of_ble_eq_true rfl⟩) hP hD hS hA (fun u : (Nat → Int32) × (Nat → Int32) × (Nat → Int32) => [(a_0, .inr (12, [.int 0, .ref a_1, .ref a_2, .ref a_3, .ref a_4, .ref a_5, .int i_4, .int i_5, .int i_6, .int i_7, .int i_8, .long j_0, .int i_9, .int i_10, .int i_11, .int i_12, .ref a_6, .ref a_7, .ref a_8, .ref a_9, .ref a_10, .ref a_11, .ref a_12, .ref a_13, .ref a_14, .ref a_15, .ref a_16, .ref a_17, .ref a_18, .int i_13, .int i_14, .int i_15, .int i_16, .int i_17, .int i_18, .ref a_19, .int i_19, .ref a_20])), (a_6, .inl (cy 1, 5, .inl (mm_g [i_20, i_21, i_22, i_23, i_24]))), (a_7, .inl (cy 1, 30, .inl (mm_g [i_25, i_26, i_27, i_28, i_29, i_30, i_31, i_32, i_33, i_34, i_35, i_36, i_37, i_38, i_39, i_40, i_41, i_42, i_43, i_44, i_45, i_46, i_47, i_48, i_49, i_50, i_51, i_52, i_53, i_54]))), (a_9, .inl (cy 1, 15, .inl f_0)), (a_10, .inl (cy 1, 1050, .inl f_1)), (a_13, .inl (cy 1, 450, .inl f_2)), (a_15, .inl (cy 1, 7200, .inl u.1)), (a_16, .inl (cy 1, 3, .inl u.2.1)), (a_17, .inl (cy 1, 3, .inl u.2.2))]) [0, 1, 2, 3, 4, 5, 6, 7, 8] [] (n := 9) (fun _ => rfl) (by decide +kernel) (by decide +kernel) rfl (fun _ => rfl) (wr := []) rfl (fun _ => rfl) (fun _ => @rfl _ ([a_0, a_6, a_7, a_9, a_10, a_13, a_15, a_16, a_17] : List Nat)) ?_
              clear hP hD hS
              clear H locs
              intro u
              obtain ⟨n18, n19, n20⟩ := u
              intro H locs hw (hP : va_P G vwCl [(a_0, .inr (12, [.int 0, .ref a_1, .ref a_2, .ref a_3, .ref a_4, .ref a_5, .int i_4, .int i_5, .int i_6, .int i_7, .int i_8, .long j_0, .int i_9, .int i_10, .int i_11, .int i_12, .ref a_6, .ref a_7, .ref a_8, .ref a_9, .ref a_10, .ref a_11, .ref a_12, .ref a_13, .ref a_14, .ref a_15, .ref a_16, .ref a_17, .ref a_18, .int i_13, .int i_14, .int i_15, .int i_16, .int i_17, .int i_18, .ref a_19, .int i_19, .ref a_20])), (a_6, .inl (cy 1, 5, .inl (mm_g [i_20, i_21, i_22, i_23, i_24]))), (a_7, .inl (cy 1, 30, .inl (mm_g [i_25, i_26, i_27, i_28, i_29, i_30, i_31, i_32, i_33, i_34, i_35, i_36, i_37, i_38, i_39, i_40, i_41, i_42, i_43, i_44, i_45, i_46, i_47, i_48, i_49, i_50, i_51, i_52, i_53, i_54]))), (a_9, .inl (cy 1, 15, .inl f_0)), (a_10, .inl (cy 1, 1050, .inl f_1)), (a_13, .inl (cy 1, 450, .inl f_2)), (a_15, .inl (cy 1, 7200, .inl n18)), (a_16, .inl (cy 1, 3, .inl n19)), (a_17, .inl (cy 1, 3, .inl n20))] H) (hD : va_D A [(a_0, .inr (12, [.int 0, .ref a_1, .ref a_2, .ref a_3, .ref a_4, .ref a_5, .int i_4, .int i_5, .int i_6, .int i_7, .int i_8, .long j_0, .int i_9, .int i_10, .int i_11, .int i_12, .ref a_6, .ref a_7, .ref a_8, .ref a_9, .ref a_10, .ref a_11, .ref a_12, .ref a_13, .ref a_14, .ref a_15, .ref a_16, .ref a_17, .ref a_18, .int i_13, .int i_14, .int i_15, .int i_16, .int i_17, .int i_18, .ref a_19, .int i_19, .ref a_20])), (a_6, .inl (cy 1, 5, .inl (mm_g [i_20, i_21, i_22, i_23, i_24]))), (a_7, .inl (cy 1, 30, .inl (mm_g [i_25, i_26, i_27, i_28, i_29, i_30, i_31, i_32, i_33, i_34, i_35, i_36, i_37, i_38, i_39, i_40, i_41, i_42, i_43, i_44, i_45, i_46, i_47, i_48, i_49, i_50, i_51, i_52, i_53, i_54]))), (a_9, .inl (cy 1, 15, .inl f_0)), (a_10, .inl (cy 1, 1050, .inl f_1)), (a_13, .inl (cy 1, 450, .inl f_2)), (a_15, .inl (cy 1, 7200, .inl n18)), (a_16, .inl (cy 1, 3, .inl n19)), (a_17, .inl (cy 1, 3, .inl n20))]) hS
              obtain ⟨w21, w22, w23, w24, w25⟩ := hw
              replace w24 : mm_laid n19 n20 i_28 := w24
              replace w25 : mm_tab n18 n19 i_27 i_28 := w25
              refine lv_aload_n hx hb dX12_often_36 rfl (lv_at hl 0 rfl) ?_
              refine lv_iload_n hx hb dX12_often_37 rfl (lv_at hl 1 rfl) ?_
              refine lv_iload_n hx hb dX12_often_38 rfl (lv_at hl 2 rfl) ?_
              refine lv_iload_n hx hb dX12_often_39 rfl (lv_at hl 3 rfl) ?_
              refine mm_finir (va_runV (As := [.int i_0, .int i_1, .int i_2]) (rest := []) ⟨hx, hb, hml, hown, hts⟩ (M131_X12_oftenOf l G cy H.size a_0 i_0 i_1 i_2 0 a_1 a_2 a_3 a_4 a_5 i_4 i_5 i_6 i_7 i_8 j_0 i_9 i_10 i_11 i_12 a_6 a_7 a_8 a_9 a_10 a_11 a_12 a_13 a_14 a_15 a_16 a_17 a_18 i_13 i_14 i_15 i_16 i_17 i_18 a_19 i_19 a_20 n18 n19 n20 w2 w9 w14 w21 w22 w23 (mm_f1_l w24 w3 w2 (by decide))) (cwV 3 hts (mm_gV mm_w773 mm_w774 mm_w775 mm_w5 mm_w776) rfl rfl rfl hd_X12_oftenOf ⟨by rw [hRf]; exact Nat.le_of_ble_eq_true rfl, by rw [hRl]; exact Nat.le_of_ble_eq_true rfl⟩) (mm_preV hK hZ hS hA hP hD [0, 6, 7, 8] rfl rfl 0 rfl rfl rfl) rfl rfl hl.1 rfl (lv_room (Nat.le_of_ble_eq_true rfl)) dX12_often_40 ⟨by rw [hRc]; exact Nat.le_of_ble_eq_true rfl, by rw [hRs]; exact Nat.le_of_ble_eq_true rfl⟩) hP hD hS hA [0, 6, 7, 8] rfl (fun _ => rfl) ?_
              clear hP hD hS
              clear H locs
              intro v26 _u H locs hw hP hD hS
              subst hAe
              rw [hQ]
              exact W.iret (v := v26) hx hb hr (fun t ht hW => ⟨⟨v26, (n18, n19, n20), rfl, ⟨w21, w22, w23, trivial⟩, by rw [ht]; exact hP, hK.warm hW, hD⟩, hS.F ht⟩) hS.2.2 dX12_often_43
            · exact mm_eqN c17.symm mm_k0 mm_k1 (by decide)

set_option maxHeartbeats 4000000 in
set_option maxRecDepth 100000 in
theorem M133_X12_may (l : Launch) (G : va_G) (cy : Nat → ClassId) (sz : Nat) (a_0 : Nat) (i_0 : Int32) (i_1 : Int32) (i_2 : Int32) (a_1 : Nat) (a_2 : Nat) (a_3 : Nat) (a_4 : Nat) (a_5 : Nat) (i_3 : Int32) (i_4 : Int32) (i_5 : Int32) (i_6 : Int32) (i_7 : Int32) (j_0 : Int64) (i_8 : Int32) (i_9 : Int32) (i_10 : Int32) (i_11 : Int32) (a_6 : Nat) (a_7 : Nat) (a_8 : Nat) (a_9 : Nat) (a_10 : Nat) (a_11 : Nat) (a_12 : Nat) (a_13 : Nat) (a_14 : Nat) (a_15 : Nat) (a_16 : Nat) (a_17 : Nat) (a_18 : Nat) (i_12 : Int32) (i_13 : Int32) (i_14 : Int32) (i_15 : Int32) (i_16 : Int32) (i_17 : Int32) (a_19 : Nat) (i_18 : Int32) (a_20 : Nat) (i_19 : Int32) (i_20 : Int32) (i_21 : Int32) (i_22 : Int32) (i_23 : Int32) (i_24 : Int32) (i_25 : Int32) (i_26 : Int32) (i_27 : Int32) (i_28 : Int32) (i_29 : Int32) (i_30 : Int32) (i_31 : Int32) (i_32 : Int32) (i_33 : Int32) (i_34 : Int32) (i_35 : Int32) (i_36 : Int32) (i_37 : Int32) (i_38 : Int32) (i_39 : Int32) (i_40 : Int32) (i_41 : Int32) (i_42 : Int32) (i_43 : Int32) (i_44 : Int32) (i_45 : Int32) (i_46 : Int32) (i_47 : Int32) (i_48 : Int32) (i_49 : Int32) (i_50 : Int32) (i_51 : Int32) (i_52 : Int32) (i_53 : Int32) (f_0 : Nat → Int32) (f_1 : Nat → Int32) (f_2 : Nat → Int32) (f_3 : Nat → Int32) (f_4 : Nat → Int32) (f_5 : Nat → Int32) (h0 : mm_rg i_19 0 601) (h1 : mm_rg i_20 0 601) (h2 : mm_rg i_21 0 601) (h3 : mm_rg i_22 0 601) (h4 : mm_rg i_23 0 601) (h5 : mm_rg i_24 0 10) (h6 : mm_rg i_25 0 99) (h7 : mm_rg i_26 0 9) (h8 : mm_rg i_27 0 3) (h9 : mm_rg i_28 0 6) (h10 : mm_rg i_29 0 30) (h11 : mm_rg i_30 0 10) (h12 : mm_rg i_31 0 99) (h13 : mm_rg i_32 0 9) (h14 : mm_rg i_33 0 3) (h15 : mm_rg i_34 0 6) (h16 : mm_rg i_35 0 30) (h17 : mm_rg i_36 0 10) (h18 : mm_rg i_37 0 99) (h19 : mm_rg i_38 0 9) (h20 : mm_rg i_39 0 3) (h21 : mm_rg i_40 0 6) (h22 : mm_rg i_41 0 30) (h23 : mm_rg i_42 0 10) (h24 : mm_rg i_43 0 99) (h25 : mm_rg i_44 0 9) (h26 : mm_rg i_45 0 3) (h27 : mm_rg i_46 0 6) (h28 : mm_rg i_47 0 30) (h29 : mm_rg i_48 0 10) (h30 : mm_rg i_49 0 99) (h31 : mm_rg i_50 0 9) (h32 : mm_rg i_51 0 3) (h33 : mm_rg i_52 0 6) (h34 : mm_rg i_53 0 30) (h35 : mm_ar f_0 0 7) (h36 : mm_ar f_1 0 9) (h37 : mm_ar f_2 (-1) 99) (h38 : mm_ar f_3 0 9) (h39 : mm_ar f_4 0 210) (h40 : mm_ar f_5 0 210) (h41 : mm_rls f_0 f_1 0 i_26 i_27) (h42 : mm_acs f_2 0 i_26 i_27 i_29) (h43 : mm_tl i_19 i_27 i_28) (h44 : mm_rls f_0 f_1 1 i_32 i_33) (h45 : mm_acs f_2 1 i_32 i_33 i_35) (h46 : mm_tl i_20 i_33 i_34) (h47 : mm_rls f_0 f_1 2 i_38 i_39) (h48 : mm_acs f_2 2 i_38 i_39 i_41) (h49 : mm_tl i_21 i_39 i_40) (h50 : mm_rls f_0 f_1 3 i_44 i_45) (h51 : mm_acs f_2 3 i_44 i_45 i_47) (h52 : mm_tl i_22 i_45 i_46)  : mm_CI l yX12_may (mm_ws yX12_may cX12_may 5 (some .int)) ({ frames := 14, cells := 0, slots := 0, locals := 300 } : Room) G cy sz [(a_0, .inr (12, [.int i_2, .ref a_1, .ref a_2, .ref a_3, .ref a_4, .ref a_5, .int i_3, .int i_4, .int i_5, .int i_6, .int i_7, .long j_0, .int i_8, .int i_9, .int i_10, .int i_11, .ref a_6, .ref a_7, .ref a_8, .ref a_9, .ref a_10, .ref a_11, .ref a_12, .ref a_13, .ref a_14, .ref a_15, .ref a_16, .ref a_17, .ref a_18, .int i_12, .int i_13, .int i_14, .int i_15, .int i_16, .int i_17, .ref a_19, .int i_18, .ref a_20])), (a_6, .inl (cy 1, 5, .inl (mm_g [i_19, i_20, i_21, i_22, i_23]))), (a_7, .inl (cy 1, 30, .inl (mm_g [i_24, i_25, i_26, i_27, i_28, i_29, i_30, i_31, i_32, i_33, i_34, i_35, i_36, i_37, i_38, i_39, i_40, i_41, i_42, i_43, i_44, i_45, i_46, i_47, i_48, i_49, i_50, i_51, i_52, i_53]))), (a_9, .inl (cy 1, 15, .inl f_0)), (a_10, .inl (cy 1, 1050, .inl f_1)), (a_13, .inl (cy 1, 450, .inl f_2)), (a_15, .inl (cy 1, 7200, .inl f_3)), (a_16, .inl (cy 1, 3, .inl f_4)), (a_17, .inl (cy 1, 3, .inl f_5))] [.ref a_0, .int i_0, .int i_1] (fun u : (Nat → Int32) × (Nat → Int32) × (Nat → Int32) => [(a_0, .inr (12, [.int 0, .ref a_1, .ref a_2, .ref a_3, .ref a_4, .ref a_5, .int i_3, .int i_4, .int i_5, .int i_6, .int i_7, .long j_0, .int i_8, .int i_9, .int i_10, .int i_11, .ref a_6, .ref a_7, .ref a_8, .ref a_9, .ref a_10, .ref a_11, .ref a_12, .ref a_13, .ref a_14, .ref a_15, .ref a_16, .ref a_17, .ref a_18, .int i_12, .int i_13, .int i_14, .int i_15, .int i_16, .int i_17, .ref a_19, .int i_18, .ref a_20])), (a_6, .inl (cy 1, 5, .inl (mm_g [i_19, i_20, i_21, i_22, i_23]))), (a_7, .inl (cy 1, 30, .inl (mm_g [i_24, i_25, i_26, i_27, i_28, i_29, i_30, i_31, i_32, i_33, i_34, i_35, i_36, i_37, i_38, i_39, i_40, i_41, i_42, i_43, i_44, i_45, i_46, i_47, i_48, i_49, i_50, i_51, i_52, i_53]))), (a_9, .inl (cy 1, 15, .inl f_0)), (a_10, .inl (cy 1, 1050, .inl f_1)), (a_13, .inl (cy 1, 450, .inl f_2)), (a_15, .inl (cy 1, 7200, .inl u.1)), (a_16, .inl (cy 1, 3, .inl u.2.1)), (a_17, .inl (cy 1, 3, .inl u.2.2))]) (fun (r : Int32) (u : (Nat → Int32) × (Nat → Int32) × (Nat → Int32)) => mm_ar u.1 0 9 ∧ mm_ar u.2.1 0 210 ∧ mm_ar u.2.2 0 210 ∧ mm_rg r (-2) 2147483647) 0 0 := by
  refine mm_begin (lv := [(0, .ref a_0), (1, .int i_0), (2, .int i_1)]) (by decide) (Nat.le_of_ble_eq_true rfl) rfl ?_
  intro p e s m below meth c A ls R args Q H locs hRe hQ hAe hx hb hr hlocks hml hown hnm hts hsz hA hS hP hK hD hZ hl
  have hRf : R.frames = 14 := by rw [hRe]
  have hRl : R.locals = 300 := by rw [hRe]
  have hRc : R.cells = 0 := by rw [hRe]
  have hRs : R.slots = 0 := by rw [hRe]
  refine lv_aload_n hx hb dX12_may_0 rfl (lv_at hl 0 rfl) ?_
  refine lv_iconst (v := 0) hx hb dX12_may_1 (by decide) ?_
  refine va_put (D := G) (ci := 12) (v := .int 0) (ty := tyX12 0) (C := RX12) (T := TX12) (N := 38) hx hb hts (mm_i inlX12) tyX12 tyX12_ok nmX12 hown hK.1 hP hD hS 0 rfl rfl 0 (by decide) (mm_h hts mm_w177) (fun _ h9 => h9) rfl (tyX12_ok 0 (by decide)) rfl rfl (Nat.le_of_ble_eq_true rfl) dX12_may_2 ?_
  clear hP hD hS
  clear H locs
  intro H locs (hP : va_P G vwCl [(a_0, .inr (12, [.int 0, .ref a_1, .ref a_2, .ref a_3, .ref a_4, .ref a_5, .int i_3, .int i_4, .int i_5, .int i_6, .int i_7, .long j_0, .int i_8, .int i_9, .int i_10, .int i_11, .ref a_6, .ref a_7, .ref a_8, .ref a_9, .ref a_10, .ref a_11, .ref a_12, .ref a_13, .ref a_14, .ref a_15, .ref a_16, .ref a_17, .ref a_18, .int i_12, .int i_13, .int i_14, .int i_15, .int i_16, .int i_17, .ref a_19, .int i_18, .ref a_20])), (a_6, .inl (cy 1, 5, .inl (mm_g [i_19, i_20, i_21, i_22, i_23]))), (a_7, .inl (cy 1, 30, .inl (mm_g [i_24, i_25, i_26, i_27, i_28, i_29, i_30, i_31, i_32, i_33, i_34, i_35, i_36, i_37, i_38, i_39, i_40, i_41, i_42, i_43, i_44, i_45, i_46, i_47, i_48, i_49, i_50, i_51, i_52, i_53]))), (a_9, .inl (cy 1, 15, .inl f_0)), (a_10, .inl (cy 1, 1050, .inl f_1)), (a_13, .inl (cy 1, 450, .inl f_2)), (a_15, .inl (cy 1, 7200, .inl f_3)), (a_16, .inl (cy 1, 3, .inl f_4)), (a_17, .inl (cy 1, 3, .inl f_5))] H) (hD : va_D A [(a_0, .inr (12, [.int 0, .ref a_1, .ref a_2, .ref a_3, .ref a_4, .ref a_5, .int i_3, .int i_4, .int i_5, .int i_6, .int i_7, .long j_0, .int i_8, .int i_9, .int i_10, .int i_11, .ref a_6, .ref a_7, .ref a_8, .ref a_9, .ref a_10, .ref a_11, .ref a_12, .ref a_13, .ref a_14, .ref a_15, .ref a_16, .ref a_17, .ref a_18, .int i_12, .int i_13, .int i_14, .int i_15, .int i_16, .int i_17, .ref a_19, .int i_18, .ref a_20])), (a_6, .inl (cy 1, 5, .inl (mm_g [i_19, i_20, i_21, i_22, i_23]))), (a_7, .inl (cy 1, 30, .inl (mm_g [i_24, i_25, i_26, i_27, i_28, i_29, i_30, i_31, i_32, i_33, i_34, i_35, i_36, i_37, i_38, i_39, i_40, i_41, i_42, i_43, i_44, i_45, i_46, i_47, i_48, i_49, i_50, i_51, i_52, i_53]))), (a_9, .inl (cy 1, 15, .inl f_0)), (a_10, .inl (cy 1, 1050, .inl f_1)), (a_13, .inl (cy 1, 450, .inl f_2)), (a_15, .inl (cy 1, 7200, .inl f_3)), (a_16, .inl (cy 1, 3, .inl f_4)), (a_17, .inl (cy 1, 3, .inl f_5))]) hS
  refine lv_aload_n hx hb dX12_may_5 rfl (lv_at hl 0 rfl) ?_
  refine lv_iload_n hx hb dX12_may_6 rfl (lv_at hl 1 rfl) ?_
  refine mm_finir (va_runV (As := [.int i_0]) (rest := []) ⟨hx, hb, hml, hown, hts⟩ (M98_X12_isLand l G cy H.size a_0 i_0 0 a_1 a_2 a_3 a_4 a_5 i_3 i_4 i_5 i_6 i_7 j_0 i_8 i_9 i_10 i_11 a_6 a_7 a_8 a_9 a_10 a_11 a_12 a_13 a_14 a_15 a_16 a_17 a_18 i_12 i_13 i_14 i_15 i_16 i_17 a_19 i_18 a_20 i_24 i_25 i_26 i_27 i_28 i_29 i_30 i_31 i_32 i_33 i_34 i_35 i_36 i_37 i_38 i_39 i_40 i_41 i_42 i_43 i_44 i_45 i_46 i_47 i_48 i_49 i_50 i_51 i_52 i_53 h5 h6 h7 h8 h9 h10 h11 h12 h13 h14 h15 h16 h17 h18 h19 h20 h21 h22 h23 h24 h25 h26 h27 h28 h29 h30 h31 h32 h33 h34) (cwV 1 hts (mm_gV mm_w641 mm_w642 mm_w643 mm_w5 mm_w644) rfl rfl rfl hd_X12_isLand ⟨by rw [hRf]; exact Nat.le_of_ble_eq_true rfl, by rw [hRl]; exact Nat.le_of_ble_eq_true rfl⟩) (mm_preV hK hZ hS hA hP hD [0, 2] rfl rfl 0 rfl rfl rfl) rfl rfl hl.1 rfl (lv_room (Nat.le_of_ble_eq_true rfl)) dX12_may_7 ⟨by rw [hRc]; exact Nat.le_of_ble_eq_true rfl, by rw [hRs]; exact Nat.le_of_ble_eq_true rfl⟩) hP hD hS hA [0, 2] rfl (fun _ => rfl) ?_
  clear hP hD hS
  clear H locs
  intro v1 _u H locs hw hP hD hS
  rcases hw with rfl | ⟨rfl, w2, w3⟩
  · refine lv_if_eq (tgt := 21) hx hb dX12_may_10 (by decide) (fun c4 => ?_) (fun c4 => ?_)
    · refine lv_bipush (v := (-2)) hx hb dX12_may_21 (by decide) ?_
      subst hAe
      rw [hQ]
      exact W.iret (v := (-2)) hx hb hr (fun t ht hW => ⟨⟨(-2), (f_3, f_4, f_5), rfl, ⟨h38, h39, h40, (mm_wk mm_km2 (by decide))⟩, by rw [ht]; exact hP, hK.warm hW, hD⟩, hS.F ht⟩) hS.2.2 dX12_may_23
    · exact absurd rfl (mm_ne c4)
  · have q5 := mm_ltR (lo := 1) w3 w2 h8 (by decide)
    have q6 : mm_rg i_19 1 601 := mm_tl_3 h43 q5 h0 (by decide)
    refine lv_if_eq (tgt := 21) hx hb dX12_may_10 (by decide) (fun c7 => ?_) (fun c7 => ?_)
    · exact mm_eqN c7.symm mm_k0 mm_k1 (by decide)
    · refine lv_aload_n hx hb dX12_may_13 rfl (lv_at hl 0 rfl) ?_
      refine lv_iload_n hx hb dX12_may_14 rfl (lv_at hl 2 rfl) ?_
      refine mm_finir (va_runV (As := [.int i_1]) (rest := []) ⟨hx, hb, hml, hown, hts⟩ (M101_X12_isWord l G cy H.size a_0 i_1 0 a_1 a_2 a_3 a_4 a_5 i_3 i_4 i_5 i_6 i_7 j_0 i_8 i_9 i_10 i_11 a_6 a_7 a_8 a_9 a_10 a_11 a_12 a_13 a_14 a_15 a_16 a_17 a_18 i_12 i_13 i_14 i_15 i_16 i_17 a_19 i_18 a_20 i_19 i_20 i_21 i_22 i_23 i_24 i_25 i_26 i_27 i_28 i_29 i_30 i_31 i_32 i_33 i_34 i_35 i_36 i_37 i_38 i_39 i_40 i_41 i_42 i_43 i_44 i_45 i_46 i_47 i_48 i_49 i_50 i_51 i_52 i_53 q6 h1 h2 h3 h4 h5 h6 h7 (mm_wk q5 (by decide)) h9 h10 h11 h12 h13 h14 h15 h16 h17 h18 h19 h20 h21 h22 h23 h24 h25 h26 h27 h28 h29 h30 h31 h32 h33 h34 h43 h46 h49 h52) (cwV 1 hts (mm_gV mm_w645 mm_w646 mm_w647 mm_w5 mm_w648) rfl rfl rfl hd_X12_isWord ⟨by rw [hRf]; exact Nat.le_of_ble_eq_true rfl, by rw [hRl]; exact Nat.le_of_ble_eq_true rfl⟩) (mm_preV hK hZ hS hA hP hD [0, 1, 2] rfl rfl 0 rfl rfl rfl) rfl rfl hl.1 rfl (lv_room (Nat.le_of_ble_eq_true rfl)) dX12_may_15 ⟨by rw [hRc]; exact Nat.le_of_ble_eq_true rfl, by rw [hRs]; exact Nat.le_of_ble_eq_true rfl⟩) hP hD hS hA [0, 1, 2] rfl (fun _ => rfl) ?_
      clear hP hD hS
      clear H locs
      intro v8 _u H locs hw hP hD hS
      rcases hw with rfl | ⟨rfl, w9, w10⟩
      · refine lv_if_ne (tgt := 24) hx hb dX12_may_18 (by decide) (fun c11 => ?_) (fun c11 => ?_)
        · exact absurd rfl (mm_ne c11)
        · refine lv_bipush (v := (-2)) hx hb dX12_may_21 (by decide) ?_
          subst hAe
          rw [hQ]
          exact W.iret (v := (-2)) hx hb hr (fun t ht hW => ⟨⟨(-2), (f_3, f_4, f_5), rfl, ⟨h38, h39, h40, (mm_wk mm_km2 (by decide))⟩, by rw [ht]; exact hP, hK.warm hW, hD⟩, hS.F ht⟩) hS.2.2 dX12_may_23
      · refine lv_if_ne (tgt := 24) hx hb dX12_may_18 (by decide) (fun c12 => ?_) (fun c12 => ?_)
        · refine lv_aload_n hx hb dX12_may_24 rfl (lv_at hl 0 rfl) ?_
          refine mm_finv (va_runV (As := []) (rest := []) ⟨hx, hb, hml, hown, hts⟩ (M125_X12_lays l G cy H.size a_0 0 a_1 a_2 a_3 a_4 a_5 i_3 i_4 i_5 i_6 i_7 j_0 i_8 i_9 i_10 i_11 a_6 a_7 a_8 a_9 a_10 a_11 a_12 a_13 a_14 a_15 a_16 a_17 a_18 i_12 i_13 i_14 i_15 i_16 i_17 a_19 i_18 a_20 i_19 i_20 i_21 i_22 i_23 i_24 i_25 i_26 i_27 i_28 i_29 i_30 i_31 i_32 i_33 i_34 i_35 i_36 i_37 i_38 i_39 i_40 i_41 i_42 i_43 i_44 i_45 i_46 i_47 i_48 i_49 i_50 i_51 i_52 i_53 f_0 f_1 f_2 f_3 f_4 f_5 (mm_wk q6 (by decide)) h1 h2 h3 h4 h5 h6 h7 (mm_wk q5 (by decide)) h9 h10 h11 h12 h13 h14 h15 h16 h17 h18 h19 h20 h21 h22 h23 h24 h25 h26 h27 h28 h29 h30 h31 h32 h33 h34 h35 h36 h37 h38 h39 h40 h41 h42 h43 h44 h45 h46 h47 h48 h49 h50 h51 h52) (cwV 0 hts (mm_gV mm_w686 mm_w687 mm_w688 mm_w5 mm_w689) rfl rfl rfl hd_X12_lays ⟨by rw [hRf]; exact Nat.le_of_ble_eq_true rfl, by rw [hRl]; exact Nat.le_of_ble_eq_true rfl⟩) (mm_preV hK hZ hS hA hP hD [0, 1, 2, 3, 4, 5, 6, 7, 8] rfl rfl 0 rfl rfl rfl) rfl rfl hl.1 rfl (lv_room (Nat.le_of_ble_eq_true rfl)) dX12_may_25 ⟨by rw [hRc]; exact Nat.le_of_ble_eq_true rfl, by rw [hRs]; exact Nat.le_of_ble_eq_true rfl⟩) hP hD hS hA (fun u : (Nat → Int32) × (Nat → Int32) × (Nat → Int32) => [(a_0, .inr (12, [.int 0, .ref a_1, .ref a_2, .ref a_3, .ref a_4, .ref a_5, .int i_3, .int i_4, .int i_5, .int i_6, .int i_7, .long j_0, .int i_8, .int i_9, .int i_10, .int i_11, .ref a_6, .ref a_7, .ref a_8, .ref a_9, .ref a_10, .ref a_11, .ref a_12, .ref a_13, .ref a_14, .ref a_15, .ref a_16, .ref a_17, .ref a_18, .int i_12, .int i_13, .int i_14, .int i_15, .int i_16, .int i_17, .ref a_19, .int i_18, .ref a_20])), (a_6, .inl (cy 1, 5, .inl (mm_g [i_19, i_20, i_21, i_22, i_23]))), (a_7, .inl (cy 1, 30, .inl (mm_g [i_24, i_25, i_26, i_27, i_28, i_29, i_30, i_31, i_32, i_33, i_34, i_35, i_36, i_37, i_38, i_39, i_40, i_41, i_42, i_43, i_44, i_45, i_46, i_47, i_48, i_49, i_50, i_51, i_52, i_53]))), (a_9, .inl (cy 1, 15, .inl f_0)), (a_10, .inl (cy 1, 1050, .inl f_1)), (a_13, .inl (cy 1, 450, .inl f_2)), (a_15, .inl (cy 1, 7200, .inl u.1)), (a_16, .inl (cy 1, 3, .inl u.2.1)), (a_17, .inl (cy 1, 3, .inl u.2.2))]) [0, 1, 2, 3, 4, 5, 6, 7, 8] [] (n := 9) (fun _ => rfl) (by decide +kernel) (by decide +kernel) rfl (fun _ => rfl) (wr := []) rfl (fun _ => rfl) (fun _ => @rfl _ ([a_0, a_6, a_7, a_9, a_10, a_13, a_15, a_16, a_17] : List Nat)) ?_
          clear hP hD hS
          clear H locs
          intro u
          obtain ⟨n13, n14, n15⟩ := u
          intro H locs hw (hP : va_P G vwCl [(a_0, .inr (12, [.int 0, .ref a_1, .ref a_2, .ref a_3, .ref a_4, .ref a_5, .int i_3, .int i_4, .int i_5, .int i_6, .int i_7, .long j_0, .int i_8, .int i_9, .int i_10, .int i_11, .ref a_6, .ref a_7, .ref a_8, .ref a_9, .ref a_10, .ref a_11, .ref a_12, .ref a_13, .ref a_14, .ref a_15, .ref a_16, .ref a_17, .ref a_18, .int i_12, .int i_13, .int i_14, .int i_15, .int i_16, .int i_17, .ref a_19, .int i_18, .ref a_20])), (a_6, .inl (cy 1, 5, .inl (mm_g [i_19, i_20, i_21, i_22, i_23]))), (a_7, .inl (cy 1, 30, .inl (mm_g [i_24, i_25, i_26, i_27, i_28, i_29, i_30, i_31, i_32, i_33, i_34, i_35, i_36, i_37, i_38, i_39, i_40, i_41, i_42, i_43, i_44, i_45, i_46, i_47, i_48, i_49, i_50, i_51, i_52, i_53]))), (a_9, .inl (cy 1, 15, .inl f_0)), (a_10, .inl (cy 1, 1050, .inl f_1)), (a_13, .inl (cy 1, 450, .inl f_2)), (a_15, .inl (cy 1, 7200, .inl n13)), (a_16, .inl (cy 1, 3, .inl n14)), (a_17, .inl (cy 1, 3, .inl n15))] H) (hD : va_D A [(a_0, .inr (12, [.int 0, .ref a_1, .ref a_2, .ref a_3, .ref a_4, .ref a_5, .int i_3, .int i_4, .int i_5, .int i_6, .int i_7, .long j_0, .int i_8, .int i_9, .int i_10, .int i_11, .ref a_6, .ref a_7, .ref a_8, .ref a_9, .ref a_10, .ref a_11, .ref a_12, .ref a_13, .ref a_14, .ref a_15, .ref a_16, .ref a_17, .ref a_18, .int i_12, .int i_13, .int i_14, .int i_15, .int i_16, .int i_17, .ref a_19, .int i_18, .ref a_20])), (a_6, .inl (cy 1, 5, .inl (mm_g [i_19, i_20, i_21, i_22, i_23]))), (a_7, .inl (cy 1, 30, .inl (mm_g [i_24, i_25, i_26, i_27, i_28, i_29, i_30, i_31, i_32, i_33, i_34, i_35, i_36, i_37, i_38, i_39, i_40, i_41, i_42, i_43, i_44, i_45, i_46, i_47, i_48, i_49, i_50, i_51, i_52, i_53]))), (a_9, .inl (cy 1, 15, .inl f_0)), (a_10, .inl (cy 1, 1050, .inl f_1)), (a_13, .inl (cy 1, 450, .inl f_2)), (a_15, .inl (cy 1, 7200, .inl n13)), (a_16, .inl (cy 1, 3, .inl n14)), (a_17, .inl (cy 1, 3, .inl n15))]) hS
          obtain ⟨w16, w17, w18, w19, w20⟩ := hw
          replace w19 : mm_laid n14 n15 i_27 := w19
          replace w20 : mm_tab n13 n14 i_26 i_27 := w20
          refine lv_iconst (v := 0) hx hb dX12_may_28 (by decide) ?_
          refine lv_istore_n (lv' := [(3, .int 0), (0, .ref a_0), (1, .int i_0), (2, .int i_1)]) hx hb dX12_may_29 rfl hl (by decide) rfl ?_
          clear hl
          clear ls
          intro ls hl
          refine lv_iconst (v := 0) hx hb dX12_may_30 (by decide) ?_
          refine lv_istore (lv' := [(4, .int 0), (3, .int 0), (0, .ref a_0), (1, .int i_0), (2, .int i_1)]) hx hb dX12_may_31 hl (by decide) rfl ?_
          clear hl
          clear ls
          intro ls hl
          have L33_251 : ∀ (n : Nat) (x33_4_250 : Int32) (x33_3_251 : Int32), mm_rg x33_4_250 0 10 → mm_rg x33_3_251 0 2147483647 → (10 - x33_4_250.toInt).toNat < n → ∀ (H : Heap) (locs : List Loc), va_P G vwCl [(a_0, .inr (12, [.int 0, .ref a_1, .ref a_2, .ref a_3, .ref a_4, .ref a_5, .int i_3, .int i_4, .int i_5, .int i_6, .int i_7, .long j_0, .int i_8, .int i_9, .int i_10, .int i_11, .ref a_6, .ref a_7, .ref a_8, .ref a_9, .ref a_10, .ref a_11, .ref a_12, .ref a_13, .ref a_14, .ref a_15, .ref a_16, .ref a_17, .ref a_18, .int i_12, .int i_13, .int i_14, .int i_15, .int i_16, .int i_17, .ref a_19, .int i_18, .ref a_20])), (a_6, .inl (cy 1, 5, .inl (mm_g [i_19, i_20, i_21, i_22, i_23]))), (a_7, .inl (cy 1, 30, .inl (mm_g [i_24, i_25, i_26, i_27, i_28, i_29, i_30, i_31, i_32, i_33, i_34, i_35, i_36, i_37, i_38, i_39, i_40, i_41, i_42, i_43, i_44, i_45, i_46, i_47, i_48, i_49, i_50, i_51, i_52, i_53]))), (a_9, .inl (cy 1, 15, .inl f_0)), (a_10, .inl (cy 1, 1050, .inl f_1)), (a_13, .inl (cy 1, 450, .inl f_2)), (a_15, .inl (cy 1, 7200, .inl n13)), (a_16, .inl (cy 1, 3, .inl n14)), (a_17, .inl (cy 1, 3, .inl n15))] H → va_D A [(a_0, .inr (12, [.int 0, .ref a_1, .ref a_2, .ref a_3, .ref a_4, .ref a_5, .int i_3, .int i_4, .int i_5, .int i_6, .int i_7, .long j_0, .int i_8, .int i_9, .int i_10, .int i_11, .ref a_6, .ref a_7, .ref a_8, .ref a_9, .ref a_10, .ref a_11, .ref a_12, .ref a_13, .ref a_14, .ref a_15, .ref a_16, .ref a_17, .ref a_18, .int i_12, .int i_13, .int i_14, .int i_15, .int i_16, .int i_17, .ref a_19, .int i_18, .ref a_20])), (a_6, .inl (cy 1, 5, .inl (mm_g [i_19, i_20, i_21, i_22, i_23]))), (a_7, .inl (cy 1, 30, .inl (mm_g [i_24, i_25, i_26, i_27, i_28, i_29, i_30, i_31, i_32, i_33, i_34, i_35, i_36, i_37, i_38, i_39, i_40, i_41, i_42, i_43, i_44, i_45, i_46, i_47, i_48, i_49, i_50, i_51, i_52, i_53]))), (a_9, .inl (cy 1, 15, .inl f_0)), (a_10, .inl (cy 1, 1050, .inl f_1)), (a_13, .inl (cy 1, 450, .inl f_2)), (a_15, .inl (cy 1, 7200, .inl n13)), (a_16, .inl (cy 1, 3, .inl n14)), (a_17, .inl (cy 1, 3, .inl n15))] → va_S A s.heap H locs → ∀ (ls : Array Slot), lv_has ls 5 [(4, .int x33_4_250), (3, .int x33_3_251), (0, .ref a_0), (1, .int i_0), (2, .int i_1)] → W p l e R s m args below meth c H locs 0 0 Q (F0 m 33 ls []) := by
            intro n
            induction n with
            | zero => intro x33_4_250 x33_3_251 rx33_4_250 rx33_3_251 hm; exact absurd hm (Nat.not_lt_zero _)
            | succ n ih33 =>
              intro x33_4_250 x33_3_251 rx33_4_250 rx33_3_251 hm33 H locs hP hD hS ls hl
              refine lv_iload hx hb dX12_may_33 (lv_at hl 0 rfl) ?_
              refine lv_aload_n hx hb dX12_may_35 rfl (lv_at hl 2 rfl) ?_
              refine mm_finir (va_runV (As := []) (rest := [.int x33_4_250]) ⟨hx, hb, hml, hown, hts⟩ (M100_X12_words l G cy H.size a_0 0 a_1 a_2 a_3 a_4 a_5 i_3 i_4 i_5 i_6 i_7 j_0 i_8 i_9 i_10 i_11 a_6 a_7 a_8 a_9 a_10 a_11 a_12 a_13 a_14 a_15 a_16 a_17 a_18 i_12 i_13 i_14 i_15 i_16 i_17 a_19 i_18 a_20 i_19 i_20 i_21 i_22 i_23 i_24 i_25 i_26 i_27 i_28 i_29 i_30 i_31 i_32 i_33 i_34 i_35 i_36 i_37 i_38 i_39 i_40 i_41 i_42 i_43 i_44 i_45 i_46 i_47 i_48 i_49 i_50 i_51 i_52 i_53 q6 h1 h2 h3 h4 h5 h6 h7 (mm_wk q5 (by decide)) h9 h10 h11 h12 h13 h14 h15 h16 h17 h18 h19 h20 h21 h22 h23 h24 h25 h26 h27 h28 h29 h30 h31 h32 h33 h34 h43 h46 h49 h52) (cwV 0 hts (mm_gV mm_w649 mm_w650 mm_w651 mm_w5 mm_w652) rfl rfl rfl hd_X12_words ⟨by rw [hRf]; exact Nat.le_of_ble_eq_true rfl, by rw [hRl]; exact Nat.le_of_ble_eq_true rfl⟩) (mm_preV hK hZ hS hA hP hD [0, 1, 2] rfl rfl 0 rfl rfl rfl) rfl rfl hl.1 rfl (lv_room (Nat.le_of_ble_eq_true rfl)) dX12_may_36 ⟨by rw [hRc]; exact Nat.le_of_ble_eq_true rfl, by rw [hRs]; exact Nat.le_of_ble_eq_true rfl⟩) hP hD hS hA [0, 1, 2] rfl (fun _ => rfl) ?_
              clear hP hD hS
              clear H locs
              intro v253 _u H locs hw hP hD hS
              obtain ⟨w254, w255⟩ := hw
              have t256 : (v253 : Int32).toInt = (i_26 : Int32).toInt + 1 := w255
              refine lv_icmp_ge (tgt := 70) hx hb dX12_may_39 (by decide) (fun c257 => ?_) (fun c257 => ?_)
              · have q258 := mm_leR (mm_le c257) w254 rx33_4_250
                refine lv_iload_n hx hb dX12_may_70 rfl (lv_at hl 1 rfl) ?_
                subst hAe
                rw [hQ]
                exact W.iret (v := x33_3_251) hx hb hr (fun t ht hW => ⟨⟨x33_3_251, (n13, n14, n15), rfl, ⟨w16, w17, w18, (mm_wk rx33_3_251 (by decide))⟩, by rw [ht]; exact hP, hK.warm hW, hD⟩, hS.F ht⟩) hS.2.2 dX12_may_71
              · have q259 := mm_ltL (h := 9) (mm_nle c257) rx33_4_250 w254 (by decide)
                refine lv_iload_n hx hb dX12_may_42 rfl (lv_at hl 1 rfl) ?_
                refine lv_aload_n hx hb dX12_may_43 rfl (lv_at hl 2 rfl) ?_
                refine lv_iload_n hx hb dX12_may_44 rfl (lv_at hl 3 rfl) ?_
                refine lv_iload hx hb dX12_may_45 (lv_at hl 0 rfl) ?_
                refine lv_iload_n hx hb dX12_may_47 rfl (lv_at hl 4 rfl) ?_
                refine mm_finir (va_runV (As := [.int i_0, .int x33_4_250, .int i_1]) (rest := [.int x33_3_251]) ⟨hx, hb, hml, hown, hts⟩ (M131_X12_oftenOf l G cy H.size a_0 i_0 x33_4_250 i_1 0 a_1 a_2 a_3 a_4 a_5 i_3 i_4 i_5 i_6 i_7 j_0 i_8 i_9 i_10 i_11 a_6 a_7 a_8 a_9 a_10 a_11 a_12 a_13 a_14 a_15 a_16 a_17 a_18 i_12 i_13 i_14 i_15 i_16 i_17 a_19 i_18 a_20 n13 n14 n15 w2 q259 w9 w16 w17 w18 (mm_f1_l w19 w3 w2 (by decide))) (cwV 3 hts (mm_gV mm_w773 mm_w774 mm_w775 mm_w5 mm_w776) rfl rfl rfl hd_X12_oftenOf ⟨by rw [hRf]; exact Nat.le_of_ble_eq_true rfl, by rw [hRl]; exact Nat.le_of_ble_eq_true rfl⟩) (mm_preV hK hZ hS hA hP hD [0, 6, 7, 8] rfl rfl 0 rfl rfl rfl) rfl rfl hl.1 rfl (lv_room (Nat.le_of_ble_eq_true rfl)) dX12_may_48 ⟨by rw [hRc]; exact Nat.le_of_ble_eq_true rfl, by rw [hRs]; exact Nat.le_of_ble_eq_true rfl⟩) hP hD hS hA [0, 6, 7, 8] rfl (fun _ => rfl) ?_
                clear hP hD hS
                clear H locs
                intro v260 _u H locs hw hP hD hS
                refine lv_if_le (tgt := 61) hx hb dX12_may_51 (by decide) (fun c261 => ?_) (fun c261 => ?_)
                · have q262 := mm_leL (mm_le c261) (mm_top v260) mm_k0
                  refine lv_iconst (v := 0) hx hb dX12_may_61 (by decide) ?_
                  refine lv_ior hx hb dX12_may_62 ?_
                  refine lv_topi (fun v263 ev263 => ?_)
                  have rv263 : mm_rg v263 0 2147483647 := mm_or ev263 31 rx33_3_251 mm_k0 (by decide)
                  refine lv_istore_n (lv' := [(3, .int v263), (4, .int x33_4_250), (0, .ref a_0), (1, .int i_0), (2, .int i_1)]) hx hb dX12_may_63 rfl hl (by decide) rfl ?_
                  clear hl
                  clear ls
                  intro ls hl
                  obtain ⟨v264, ev264⟩ : ∃ y : Int32, y = x33_4_250 + 1 := ⟨_, rfl⟩
                  refine lv_iinc (v := v264) (lv' := [(4, .int v264), (3, .int v263), (0, .ref a_0), (1, .int i_0), (2, .int i_1)]) hx hb dX12_may_64 hl (k := 1) rfl (by rw [ev264]; rfl) (by decide) rfl ?_
                  clear hl
                  clear ls
                  intro ls hl
                  have rv264 : mm_rg v264 1 10 := mm_add ev264 q259 mm_k1 (by decide) (by decide)
                  have tv264 := mm_addEc ev264 q259 mm_k1 (by decide) (k := 1) (by decide)
                  refine lv_goto (tgt := 33) hx hb dX12_may_67 (by decide) ?_
                  exact ih33 v264 v263 (mm_wk rv264 (by decide)) rv263 (mm_mu hm33 tv264 (by decide) (rv264).2 (by decide)) H locs hP hD hS ls (lv_sub hl [0, 1, 2, 3, 4] rfl)
                · have q265 := mm_ltR (lo := 1) (mm_nle c261) mm_k0 (mm_top v260) (by decide)
                  refine lv_iconst (v := 1) hx hb dX12_may_54 (by decide) ?_
                  refine lv_iload hx hb dX12_may_55 (lv_at hl 0 rfl) ?_
                  refine lv_ishl hx hb dX12_may_57 ?_
                  refine lv_topi (fun v266 ev266 => ?_)
                  have rv266 : mm_rg v266 1 512 := mm_shl1 ev266 q259 (by decide)
                  refine lv_goto (tgt := 62) hx hb dX12_may_58 (by decide) ?_
                  refine lv_ior hx hb dX12_may_62 ?_
                  refine lv_topi (fun v267 ev267 => ?_)
                  have rv267 : mm_rg v267 0 2147483647 := mm_or ev267 31 rx33_3_251 rv266 (by decide)
                  refine lv_istore_n (lv' := [(3, .int v267), (4, .int x33_4_250), (0, .ref a_0), (1, .int i_0), (2, .int i_1)]) hx hb dX12_may_63 rfl hl (by decide) rfl ?_
                  clear hl
                  clear ls
                  intro ls hl
                  obtain ⟨v268, ev268⟩ : ∃ y : Int32, y = x33_4_250 + 1 := ⟨_, rfl⟩
                  refine lv_iinc (v := v268) (lv' := [(4, .int v268), (3, .int v267), (0, .ref a_0), (1, .int i_0), (2, .int i_1)]) hx hb dX12_may_64 hl (k := 1) rfl (by rw [ev268]; rfl) (by decide) rfl ?_
                  clear hl
                  clear ls
                  intro ls hl
                  have rv268 : mm_rg v268 1 10 := mm_add ev268 q259 mm_k1 (by decide) (by decide)
                  have tv268 := mm_addEc ev268 q259 mm_k1 (by decide) (k := 1) (by decide)
                  refine lv_goto (tgt := 33) hx hb dX12_may_67 (by decide) ?_
                  exact ih33 v268 v267 (mm_wk rv268 (by decide)) rv267 (mm_mu hm33 tv268 (by decide) (rv268).2 (by decide)) H locs hP hD hS ls (lv_sub hl [0, 1, 2, 3, 4] rfl)
          exact L33_251 _ 0 0 (mm_wk mm_k0 (by decide)) (mm_wk mm_k0 (by decide)) (Nat.lt_succ_self _) H locs hP hD hS ls (lv_sub hl [0, 1, 2, 3, 4] rfl)
        · exact mm_eqN c12.symm mm_k0 mm_k1 (by decide)

set_option maxHeartbeats 4000000 in
set_option maxRecDepth 100000 in
theorem M134_X12_mutedOf (l : Launch) (G : va_G) (cy : Nat → ClassId) (sz : Nat) (a_0 : Nat) (i_0 : Int32) (i_1 : Int32) (a_1 : Nat) (a_2 : Nat) (a_3 : Nat) (a_4 : Nat) (a_5 : Nat) (i_2 : Int32) (i_3 : Int32) (i_4 : Int32) (i_5 : Int32) (i_6 : Int32) (j_0 : Int64) (i_7 : Int32) (i_8 : Int32) (i_9 : Int32) (i_10 : Int32) (a_6 : Nat) (a_7 : Nat) (a_8 : Nat) (a_9 : Nat) (a_10 : Nat) (a_11 : Nat) (a_12 : Nat) (a_13 : Nat) (a_14 : Nat) (a_15 : Nat) (a_16 : Nat) (a_17 : Nat) (a_18 : Nat) (i_11 : Int32) (i_12 : Int32) (i_13 : Int32) (i_14 : Int32) (i_15 : Int32) (i_16 : Int32) (a_19 : Nat) (i_17 : Int32) (a_20 : Nat) (i_18 : Int32) (i_19 : Int32) (i_20 : Int32) (i_21 : Int32) (i_22 : Int32) (i_23 : Int32) (i_24 : Int32) (i_25 : Int32) (i_26 : Int32) (i_27 : Int32) (i_28 : Int32) (i_29 : Int32) (i_30 : Int32) (i_31 : Int32) (i_32 : Int32) (i_33 : Int32) (i_34 : Int32) (i_35 : Int32) (i_36 : Int32) (i_37 : Int32) (i_38 : Int32) (i_39 : Int32) (i_40 : Int32) (i_41 : Int32) (i_42 : Int32) (i_43 : Int32) (i_44 : Int32) (i_45 : Int32) (i_46 : Int32) (i_47 : Int32) (i_48 : Int32) (i_49 : Int32) (i_50 : Int32) (i_51 : Int32) (i_52 : Int32) (f_0 : Nat → Int32) (f_1 : Nat → Int32) (f_2 : Nat → Int32) (h0 : mm_rg i_0 0 2) (h1 : mm_rg i_18 0 601) (h2 : mm_rg i_19 0 601) (h3 : mm_rg i_20 0 601) (h4 : mm_rg i_21 0 601) (h5 : mm_rg i_22 0 601) (h6 : mm_rg i_23 0 10) (h7 : mm_rg i_24 0 99) (h8 : mm_rg i_25 0 9) (h9 : mm_rg i_26 0 3) (h10 : mm_rg i_27 0 6) (h11 : mm_rg i_28 0 30) (h12 : mm_rg i_29 0 10) (h13 : mm_rg i_30 0 99) (h14 : mm_rg i_31 0 9) (h15 : mm_rg i_32 0 3) (h16 : mm_rg i_33 0 6) (h17 : mm_rg i_34 0 30) (h18 : mm_rg i_35 0 10) (h19 : mm_rg i_36 0 99) (h20 : mm_rg i_37 0 9) (h21 : mm_rg i_38 0 3) (h22 : mm_rg i_39 0 6) (h23 : mm_rg i_40 0 30) (h24 : mm_rg i_41 0 10) (h25 : mm_rg i_42 0 99) (h26 : mm_rg i_43 0 9) (h27 : mm_rg i_44 0 3) (h28 : mm_rg i_45 0 6) (h29 : mm_rg i_46 0 30) (h30 : mm_rg i_47 0 10) (h31 : mm_rg i_48 0 99) (h32 : mm_rg i_49 0 9) (h33 : mm_rg i_50 0 3) (h34 : mm_rg i_51 0 6) (h35 : mm_rg i_52 0 30) (h36 : mm_ar f_0 0 9) (h37 : mm_ar f_1 0 210) (h38 : mm_ar f_2 0 210) (h39 : mm_tl i_18 i_26 i_27) (h40 : mm_tl i_19 i_32 i_33) (h41 : mm_tl i_20 i_38 i_39) (h42 : mm_tl i_21 i_44 i_45) (h43 : mm_f1 f_1 i_0)  : mm_CI l yX12_mutedOf (mm_ws yX12_mutedOf cX12_mutedOf 4 (some .int)) ({ frames := 2, cells := 0, slots := 0, locals := 48 } : Room) G cy sz [(a_0, .inr (12, [.int i_1, .ref a_1, .ref a_2, .ref a_3, .ref a_4, .ref a_5, .int i_2, .int i_3, .int i_4, .int i_5, .int i_6, .long j_0, .int i_7, .int i_8, .int i_9, .int i_10, .ref a_6, .ref a_7, .ref a_8, .ref a_9, .ref a_10, .ref a_11, .ref a_12, .ref a_13, .ref a_14, .ref a_15, .ref a_16, .ref a_17, .ref a_18, .int i_11, .int i_12, .int i_13, .int i_14, .int i_15, .int i_16, .ref a_19, .int i_17, .ref a_20])), (a_6, .inl (cy 1, 5, .inl (mm_g [i_18, i_19, i_20, i_21, i_22]))), (a_7, .inl (cy 1, 30, .inl (mm_g [i_23, i_24, i_25, i_26, i_27, i_28, i_29, i_30, i_31, i_32, i_33, i_34, i_35, i_36, i_37, i_38, i_39, i_40, i_41, i_42, i_43, i_44, i_45, i_46, i_47, i_48, i_49, i_50, i_51, i_52]))), (a_15, .inl (cy 1, 7200, .inl f_0)), (a_16, .inl (cy 1, 3, .inl f_1)), (a_17, .inl (cy 1, 3, .inl f_2))] [.ref a_0, .int i_0] (fun u : Unit => [(a_0, .inr (12, [.int i_1, .ref a_1, .ref a_2, .ref a_3, .ref a_4, .ref a_5, .int i_2, .int i_3, .int i_4, .int i_5, .int i_6, .long j_0, .int i_7, .int i_8, .int i_9, .int i_10, .ref a_6, .ref a_7, .ref a_8, .ref a_9, .ref a_10, .ref a_11, .ref a_12, .ref a_13, .ref a_14, .ref a_15, .ref a_16, .ref a_17, .ref a_18, .int i_11, .int i_12, .int i_13, .int i_14, .int i_15, .int i_16, .ref a_19, .int i_17, .ref a_20])), (a_6, .inl (cy 1, 5, .inl (mm_g [i_18, i_19, i_20, i_21, i_22]))), (a_7, .inl (cy 1, 30, .inl (mm_g [i_23, i_24, i_25, i_26, i_27, i_28, i_29, i_30, i_31, i_32, i_33, i_34, i_35, i_36, i_37, i_38, i_39, i_40, i_41, i_42, i_43, i_44, i_45, i_46, i_47, i_48, i_49, i_50, i_51, i_52]))), (a_15, .inl (cy 1, 7200, .inl f_0)), (a_16, .inl (cy 1, 3, .inl f_1)), (a_17, .inl (cy 1, 3, .inl f_2))]) (fun (r : Int32) (u : Unit) => mm_rg r 0 9) 0 0 := by
  refine mm_begin (lv := [(0, .ref a_0), (1, .int i_0)]) (by decide) (Nat.le_of_ble_eq_true rfl) rfl ?_
  intro p e s m below meth c A ls R args Q H locs hRe hQ hAe hx hb hr hlocks hml hown hnm hts hsz hA hS hP hK hD hZ hl
  have hRf : R.frames = 2 := by rw [hRe]
  have hRl : R.locals = 48 := by rw [hRe]
  have hRc : R.cells = 0 := by rw [hRe]
  have hRs : R.slots = 0 := by rw [hRe]
  refine lv_iconst (v := 0) hx hb dX12_mutedOf_0 (by decide) ?_
  refine lv_istore_n (lv' := [(2, .int 0), (0, .ref a_0), (1, .int i_0)]) hx hb dX12_mutedOf_1 rfl hl (by decide) rfl ?_
  clear hl
  clear ls
  intro ls hl
  refine lv_iconst (v := 0) hx hb dX12_mutedOf_2 (by decide) ?_
  refine lv_istore_n (lv' := [(3, .int 0), (2, .int 0), (0, .ref a_0), (1, .int i_0)]) hx hb dX12_mutedOf_3 rfl hl (by decide) rfl ?_
  clear hl
  clear ls
  intro ls hl
  have L4_182 : ∀ (n : Nat) (x4_3_181 : Int32) (x4_2_182 : Int32), mm_rg x4_3_181 0 10 → mm_rg x4_2_182 0 9 → (10 - x4_3_181.toInt).toNat < n → ∀ (H : Heap) (locs : List Loc), va_P G vwCl [(a_0, .inr (12, [.int i_1, .ref a_1, .ref a_2, .ref a_3, .ref a_4, .ref a_5, .int i_2, .int i_3, .int i_4, .int i_5, .int i_6, .long j_0, .int i_7, .int i_8, .int i_9, .int i_10, .ref a_6, .ref a_7, .ref a_8, .ref a_9, .ref a_10, .ref a_11, .ref a_12, .ref a_13, .ref a_14, .ref a_15, .ref a_16, .ref a_17, .ref a_18, .int i_11, .int i_12, .int i_13, .int i_14, .int i_15, .int i_16, .ref a_19, .int i_17, .ref a_20])), (a_6, .inl (cy 1, 5, .inl (mm_g [i_18, i_19, i_20, i_21, i_22]))), (a_7, .inl (cy 1, 30, .inl (mm_g [i_23, i_24, i_25, i_26, i_27, i_28, i_29, i_30, i_31, i_32, i_33, i_34, i_35, i_36, i_37, i_38, i_39, i_40, i_41, i_42, i_43, i_44, i_45, i_46, i_47, i_48, i_49, i_50, i_51, i_52]))), (a_15, .inl (cy 1, 7200, .inl f_0)), (a_16, .inl (cy 1, 3, .inl f_1)), (a_17, .inl (cy 1, 3, .inl f_2))] H → va_D A [(a_0, .inr (12, [.int i_1, .ref a_1, .ref a_2, .ref a_3, .ref a_4, .ref a_5, .int i_2, .int i_3, .int i_4, .int i_5, .int i_6, .long j_0, .int i_7, .int i_8, .int i_9, .int i_10, .ref a_6, .ref a_7, .ref a_8, .ref a_9, .ref a_10, .ref a_11, .ref a_12, .ref a_13, .ref a_14, .ref a_15, .ref a_16, .ref a_17, .ref a_18, .int i_11, .int i_12, .int i_13, .int i_14, .int i_15, .int i_16, .ref a_19, .int i_17, .ref a_20])), (a_6, .inl (cy 1, 5, .inl (mm_g [i_18, i_19, i_20, i_21, i_22]))), (a_7, .inl (cy 1, 30, .inl (mm_g [i_23, i_24, i_25, i_26, i_27, i_28, i_29, i_30, i_31, i_32, i_33, i_34, i_35, i_36, i_37, i_38, i_39, i_40, i_41, i_42, i_43, i_44, i_45, i_46, i_47, i_48, i_49, i_50, i_51, i_52]))), (a_15, .inl (cy 1, 7200, .inl f_0)), (a_16, .inl (cy 1, 3, .inl f_1)), (a_17, .inl (cy 1, 3, .inl f_2))] → va_S A s.heap H locs → ∀ (ls : Array Slot), lv_has ls 4 [(3, .int x4_3_181), (2, .int x4_2_182), (0, .ref a_0), (1, .int i_0)] → W p l e R s m args below meth c H locs 0 0 Q (F0 m 4 ls []) := by
    intro n
    induction n with
    | zero => intro x4_3_181 x4_2_182 rx4_3_181 rx4_2_182 hm; exact absurd hm (Nat.not_lt_zero _)
    | succ n ih4 =>
      intro x4_3_181 x4_2_182 rx4_3_181 rx4_2_182 hm4 H locs hP hD hS ls hl
      refine lv_iload_n hx hb dX12_mutedOf_4 rfl (lv_at hl 0 rfl) ?_
      refine lv_aload_n hx hb dX12_mutedOf_5 rfl (lv_at hl 2 rfl) ?_
      refine mm_finir (va_runV (As := []) (rest := [.int x4_3_181]) ⟨hx, hb, hml, hown, hts⟩ (M121_X12_words l G cy H.size a_0 i_1 a_1 a_2 a_3 a_4 a_5 i_2 i_3 i_4 i_5 i_6 j_0 i_7 i_8 i_9 i_10 a_6 a_7 a_8 a_9 a_10 a_11 a_12 a_13 a_14 a_15 a_16 a_17 a_18 i_11 i_12 i_13 i_14 i_15 i_16 a_19 i_17 a_20 i_18 i_19 i_20 i_21 i_22 i_23 i_24 i_25 i_26 i_27 i_28 i_29 i_30 i_31 i_32 i_33 i_34 i_35 i_36 i_37 i_38 i_39 i_40 i_41 i_42 i_43 i_44 i_45 i_46 i_47 i_48 i_49 i_50 i_51 i_52 h1 h2 h3 h4 h5 h6 h7 h8 h9 h10 h11 h12 h13 h14 h15 h16 h17 h18 h19 h20 h21 h22 h23 h24 h25 h26 h27 h28 h29 h30 h31 h32 h33 h34 h35 h39 h40 h41 h42) (cwV 0 hts (mm_gV mm_w649 mm_w650 mm_w651 mm_w5 mm_w652) rfl rfl rfl hd_X12_words ⟨by rw [hRf]; exact Nat.le_of_ble_eq_true rfl, by rw [hRl]; exact Nat.le_of_ble_eq_true rfl⟩) (mm_preV hK hZ hS hA hP hD [0, 1, 2] rfl rfl 0 rfl rfl rfl) rfl rfl hl.1 rfl (lv_room (Nat.le_of_ble_eq_true rfl)) dX12_mutedOf_6 ⟨by rw [hRc]; exact Nat.le_of_ble_eq_true rfl, by rw [hRs]; exact Nat.le_of_ble_eq_true rfl⟩) hP hD hS hA [0, 1, 2] rfl (fun _ => rfl) ?_
      clear hP hD hS
      clear H locs
      intro v184 _u H locs hw hP hD hS
      have w185 := hw
      refine lv_icmp_ge (tgt := 43) hx hb dX12_mutedOf_9 (by decide) (fun c186 => ?_) (fun c186 => ?_)
      · refine lv_iload_n hx hb dX12_mutedOf_43 rfl (lv_at hl 1 rfl) ?_
        subst hAe
        rw [hQ]
        exact W.iret (v := x4_2_182) hx hb hr (fun t ht hW => ⟨⟨x4_2_182, (), rfl, rx4_2_182, by rw [ht]; exact hP, hK.warm hW, hD⟩, hS.F ht⟩) hS.2.2 dX12_mutedOf_44
      · have q187 := mm_ltL (h := 9) (mm_nle c186) rx4_3_181 w185 (by decide)
        have q188 := mm_ltR (lo := 1) (mm_nle c186) rx4_3_181 w185 (by decide)
        refine lv_aload_n hx hb dX12_mutedOf_12 rfl (lv_at hl 2 rfl) ?_
        refine lv_iload_n hx hb dX12_mutedOf_13 rfl (lv_at hl 3 rfl) ?_
        refine lv_iload_n hx hb dX12_mutedOf_14 rfl (lv_at hl 0 rfl) ?_
        refine lv_aload_n hx hb dX12_mutedOf_15 rfl (lv_at hl 2 rfl) ?_
        refine mm_finir (va_runV (As := []) (rest := [.int x4_3_181, .int i_0, .ref a_0]) ⟨hx, hb, hml, hown, hts⟩ (M92_X12_senses l G cy H.size a_0 i_1 a_1 a_2 a_3 a_4 a_5 i_2 i_3 i_4 i_5 i_6 j_0 i_7 i_8 i_9 i_10 a_6 a_7 a_8 a_9 a_10 a_11 a_12 a_13 a_14 a_15 a_16 a_17 a_18 i_11 i_12 i_13 i_14 i_15 i_16 a_19 i_17 a_20 i_23 i_24 i_25 i_26 i_27 i_28 i_29 i_30 i_31 i_32 i_33 i_34 i_35 i_36 i_37 i_38 i_39 i_40 i_41 i_42 i_43 i_44 i_45 i_46 i_47 i_48 i_49 i_50 i_51 i_52 h6 h7 h8 h9 h10 h11 h12 h13 h14 h15 h16 h17 h18 h19 h20 h21 h22 h23 h24 h25 h26 h27 h28 h29 h30 h31 h32 h33 h34 h35) (cwV 0 hts (mm_gV mm_w588 mm_w589 mm_w590 mm_w5 mm_w591) rfl rfl rfl hd_X12_senses ⟨by rw [hRf]; exact Nat.le_of_ble_eq_true rfl, by rw [hRl]; exact Nat.le_of_ble_eq_true rfl⟩) (mm_preV hK hZ hS hA hP hD [0, 2] rfl rfl 0 rfl rfl rfl) rfl rfl hl.1 rfl (lv_room (Nat.le_of_ble_eq_true rfl)) dX12_mutedOf_16 ⟨by rw [hRc]; exact Nat.le_of_ble_eq_true rfl, by rw [hRs]; exact Nat.le_of_ble_eq_true rfl⟩) hP hD hS hA [0, 2] rfl (fun _ => rfl) ?_
        clear hP hD hS
        clear H locs
        intro v189 _u H locs hw hP hD hS
        subst hw
        refine mm_finir (va_runV (As := [.int i_0, .int x4_3_181, .int i_25]) (rest := []) ⟨hx, hb, hml, hown, hts⟩ (M131_X12_oftenOf l G cy H.size a_0 i_0 x4_3_181 i_25 i_1 a_1 a_2 a_3 a_4 a_5 i_2 i_3 i_4 i_5 i_6 j_0 i_7 i_8 i_9 i_10 a_6 a_7 a_8 a_9 a_10 a_11 a_12 a_13 a_14 a_15 a_16 a_17 a_18 i_11 i_12 i_13 i_14 i_15 i_16 a_19 i_17 a_20 f_0 f_1 f_2 h0 q187 h8 h36 h37 h38 h43) (cwV 3 hts (mm_gV mm_w773 mm_w774 mm_w775 mm_w5 mm_w776) rfl rfl rfl hd_X12_oftenOf ⟨by rw [hRf]; exact Nat.le_of_ble_eq_true rfl, by rw [hRl]; exact Nat.le_of_ble_eq_true rfl⟩) (mm_preV hK hZ hS hA hP hD [0, 3, 4, 5] rfl rfl 0 rfl rfl rfl) rfl rfl hl.1 rfl (lv_room (Nat.le_of_ble_eq_true rfl)) dX12_mutedOf_19 ⟨by rw [hRc]; exact Nat.le_of_ble_eq_true rfl, by rw [hRs]; exact Nat.le_of_ble_eq_true rfl⟩) hP hD hS hA [0, 3, 4, 5] rfl (fun _ => rfl) ?_
        clear hP hD hS
        clear H locs
        intro v190 _u H locs hw hP hD hS
        refine lv_aload_n hx hb dX12_mutedOf_22 rfl (lv_at hl 2 rfl) ?_
        refine lv_iload_n hx hb dX12_mutedOf_23 rfl (lv_at hl 3 rfl) ?_
        refine lv_iload_n hx hb dX12_mutedOf_24 rfl (lv_at hl 1 rfl) ?_
        refine lv_aload_n hx hb dX12_mutedOf_25 rfl (lv_at hl 2 rfl) ?_
        refine mm_finir (va_runV (As := []) (rest := [.int x4_2_182, .int i_0, .ref a_0, .int v190]) ⟨hx, hb, hml, hown, hts⟩ (M92_X12_senses l G cy H.size a_0 i_1 a_1 a_2 a_3 a_4 a_5 i_2 i_3 i_4 i_5 i_6 j_0 i_7 i_8 i_9 i_10 a_6 a_7 a_8 a_9 a_10 a_11 a_12 a_13 a_14 a_15 a_16 a_17 a_18 i_11 i_12 i_13 i_14 i_15 i_16 a_19 i_17 a_20 i_23 i_24 i_25 i_26 i_27 i_28 i_29 i_30 i_31 i_32 i_33 i_34 i_35 i_36 i_37 i_38 i_39 i_40 i_41 i_42 i_43 i_44 i_45 i_46 i_47 i_48 i_49 i_50 i_51 i_52 h6 h7 h8 h9 h10 h11 h12 h13 h14 h15 h16 h17 h18 h19 h20 h21 h22 h23 h24 h25 h26 h27 h28 h29 h30 h31 h32 h33 h34 h35) (cwV 0 hts (mm_gV mm_w588 mm_w589 mm_w590 mm_w5 mm_w591) rfl rfl rfl hd_X12_senses ⟨by rw [hRf]; exact Nat.le_of_ble_eq_true rfl, by rw [hRl]; exact Nat.le_of_ble_eq_true rfl⟩) (mm_preV hK hZ hS hA hP hD [0, 2] rfl rfl 0 rfl rfl rfl) rfl rfl hl.1 rfl (lv_room (Nat.le_of_ble_eq_true rfl)) dX12_mutedOf_26 ⟨by rw [hRc]; exact Nat.le_of_ble_eq_true rfl, by rw [hRs]; exact Nat.le_of_ble_eq_true rfl⟩) hP hD hS hA [0, 2] rfl (fun _ => rfl) ?_
        clear hP hD hS
        clear H locs
        intro v191 _u H locs hw hP hD hS
        subst hw
        refine mm_finir (va_runV (As := [.int i_0, .int x4_2_182, .int i_25]) (rest := [.int v190]) ⟨hx, hb, hml, hown, hts⟩ (M131_X12_oftenOf l G cy H.size a_0 i_0 x4_2_182 i_25 i_1 a_1 a_2 a_3 a_4 a_5 i_2 i_3 i_4 i_5 i_6 j_0 i_7 i_8 i_9 i_10 a_6 a_7 a_8 a_9 a_10 a_11 a_12 a_13 a_14 a_15 a_16 a_17 a_18 i_11 i_12 i_13 i_14 i_15 i_16 a_19 i_17 a_20 f_0 f_1 f_2 h0 rx4_2_182 h8 h36 h37 h38 h43) (cwV 3 hts (mm_gV mm_w773 mm_w774 mm_w775 mm_w5 mm_w776) rfl rfl rfl hd_X12_oftenOf ⟨by rw [hRf]; exact Nat.le_of_ble_eq_true rfl, by rw [hRl]; exact Nat.le_of_ble_eq_true rfl⟩) (mm_preV hK hZ hS hA hP hD [0, 3, 4, 5] rfl rfl 0 rfl rfl rfl) rfl rfl hl.1 rfl (lv_room (Nat.le_of_ble_eq_true rfl)) dX12_mutedOf_29 ⟨by rw [hRc]; exact Nat.le_of_ble_eq_true rfl, by rw [hRs]; exact Nat.le_of_ble_eq_true rfl⟩) hP hD hS hA [0, 3, 4, 5] rfl (fun _ => rfl) ?_
        clear hP hD hS
        clear H locs
        intro v192 _u H locs hw hP hD hS
        refine lv_icmp_le (tgt := 37) hx hb dX12_mutedOf_32 (by decide) (fun c193 => ?_) (fun c193 => ?_)
        · obtain ⟨v194, ev194⟩ : ∃ y : Int32, y = x4_3_181 + 1 := ⟨_, rfl⟩
          refine lv_iinc (v := v194) (lv' := [(3, .int v194), (2, .int x4_2_182), (0, .ref a_0), (1, .int i_0)]) hx hb dX12_mutedOf_37 hl (k := 0) rfl (by rw [ev194]; rfl) (by decide) rfl ?_
          clear hl
          clear ls
          intro ls hl
          have rv194 : mm_rg v194 1 10 := mm_add ev194 q187 mm_k1 (by decide) (by decide)
          have tv194 := mm_addEc ev194 q187 mm_k1 (by decide) (k := 1) (by decide)
          refine lv_goto (tgt := 4) hx hb dX12_mutedOf_40 (by decide) ?_
          exact ih4 v194 x4_2_182 (mm_wk rv194 (by decide)) rx4_2_182 (mm_mu hm4 tv194 (by decide) (rv194).2 (by decide)) H locs hP hD hS ls (lv_sub hl [0, 1, 2, 3] rfl)
        · have q195 := mm_ltL (h := 2147483646) (mm_nle c193) (mm_top v192) (mm_top v190) (by decide)
          have q196 := mm_ltR (lo := (-2147483647)) (mm_nle c193) (mm_top v192) (mm_top v190) (by decide)
          refine lv_iload_n hx hb dX12_mutedOf_35 rfl (lv_at hl 0 rfl) ?_
          refine lv_istore_n (lv' := [(2, .int x4_3_181), (3, .int x4_3_181), (0, .ref a_0), (1, .int i_0)]) hx hb dX12_mutedOf_36 rfl hl (by decide) rfl ?_
          clear hl
          clear ls
          intro ls hl
          obtain ⟨v197, ev197⟩ : ∃ y : Int32, y = x4_3_181 + 1 := ⟨_, rfl⟩
          refine lv_iinc (v := v197) (lv' := [(3, .int v197), (2, .int x4_3_181), (0, .ref a_0), (1, .int i_0)]) hx hb dX12_mutedOf_37 hl (k := 1) rfl (by rw [ev197]; rfl) (by decide) rfl ?_
          clear hl
          clear ls
          intro ls hl
          have rv197 : mm_rg v197 1 10 := mm_add ev197 q187 mm_k1 (by decide) (by decide)
          have tv197 := mm_addEc ev197 q187 mm_k1 (by decide) (k := 1) (by decide)
          refine lv_goto (tgt := 4) hx hb dX12_mutedOf_40 (by decide) ?_
          exact ih4 v197 x4_3_181 (mm_wk rv197 (by decide)) q187 (mm_mu hm4 tv197 (by decide) (rv197).2 (by decide)) H locs hP hD hS ls (lv_sub hl [0, 1, 2, 3] rfl)
  exact L4_182 _ 0 0 (mm_wk mm_k0 (by decide)) (mm_wk mm_k0 (by decide)) (Nat.lt_succ_self _) H locs hP hD hS ls (lv_sub hl [0, 1, 2, 3] rfl)

set_option maxHeartbeats 4000000 in
set_option maxRecDepth 100000 in
theorem M135_X12_mute (l : Launch) (G : va_G) (cy : Nat → ClassId) (sz : Nat) (a_0 : Nat) (i_0 : Int32) (i_1 : Int32) (a_1 : Nat) (a_2 : Nat) (a_3 : Nat) (a_4 : Nat) (a_5 : Nat) (i_2 : Int32) (i_3 : Int32) (i_4 : Int32) (i_5 : Int32) (i_6 : Int32) (j_0 : Int64) (i_7 : Int32) (i_8 : Int32) (i_9 : Int32) (i_10 : Int32) (a_6 : Nat) (a_7 : Nat) (a_8 : Nat) (a_9 : Nat) (a_10 : Nat) (a_11 : Nat) (a_12 : Nat) (a_13 : Nat) (a_14 : Nat) (a_15 : Nat) (a_16 : Nat) (a_17 : Nat) (a_18 : Nat) (i_11 : Int32) (i_12 : Int32) (i_13 : Int32) (i_14 : Int32) (i_15 : Int32) (i_16 : Int32) (a_19 : Nat) (i_17 : Int32) (a_20 : Nat) (i_18 : Int32) (i_19 : Int32) (i_20 : Int32) (i_21 : Int32) (i_22 : Int32) (i_23 : Int32) (i_24 : Int32) (i_25 : Int32) (i_26 : Int32) (i_27 : Int32) (i_28 : Int32) (i_29 : Int32) (i_30 : Int32) (i_31 : Int32) (i_32 : Int32) (i_33 : Int32) (i_34 : Int32) (i_35 : Int32) (i_36 : Int32) (i_37 : Int32) (i_38 : Int32) (i_39 : Int32) (i_40 : Int32) (i_41 : Int32) (i_42 : Int32) (i_43 : Int32) (i_44 : Int32) (i_45 : Int32) (i_46 : Int32) (i_47 : Int32) (i_48 : Int32) (i_49 : Int32) (i_50 : Int32) (i_51 : Int32) (i_52 : Int32) (f_0 : Nat → Int32) (f_1 : Nat → Int32) (f_2 : Nat → Int32) (f_3 : Nat → Int32) (f_4 : Nat → Int32) (f_5 : Nat → Int32) (h0 : mm_rg i_18 0 601) (h1 : mm_rg i_19 0 601) (h2 : mm_rg i_20 0 601) (h3 : mm_rg i_21 0 601) (h4 : mm_rg i_22 0 601) (h5 : mm_rg i_23 0 10) (h6 : mm_rg i_24 0 99) (h7 : mm_rg i_25 0 9) (h8 : mm_rg i_26 0 3) (h9 : mm_rg i_27 0 6) (h10 : mm_rg i_28 0 30) (h11 : mm_rg i_29 0 10) (h12 : mm_rg i_30 0 99) (h13 : mm_rg i_31 0 9) (h14 : mm_rg i_32 0 3) (h15 : mm_rg i_33 0 6) (h16 : mm_rg i_34 0 30) (h17 : mm_rg i_35 0 10) (h18 : mm_rg i_36 0 99) (h19 : mm_rg i_37 0 9) (h20 : mm_rg i_38 0 3) (h21 : mm_rg i_39 0 6) (h22 : mm_rg i_40 0 30) (h23 : mm_rg i_41 0 10) (h24 : mm_rg i_42 0 99) (h25 : mm_rg i_43 0 9) (h26 : mm_rg i_44 0 3) (h27 : mm_rg i_45 0 6) (h28 : mm_rg i_46 0 30) (h29 : mm_rg i_47 0 10) (h30 : mm_rg i_48 0 99) (h31 : mm_rg i_49 0 9) (h32 : mm_rg i_50 0 3) (h33 : mm_rg i_51 0 6) (h34 : mm_rg i_52 0 30) (h35 : mm_ar f_0 0 7) (h36 : mm_ar f_1 0 9) (h37 : mm_ar f_2 (-1) 99) (h38 : mm_ar f_3 0 9) (h39 : mm_ar f_4 0 210) (h40 : mm_ar f_5 0 210) (h41 : mm_rls f_0 f_1 0 i_25 i_26) (h42 : mm_acs f_2 0 i_25 i_26 i_28) (h43 : mm_tl i_18 i_26 i_27) (h44 : mm_rls f_0 f_1 1 i_31 i_32) (h45 : mm_acs f_2 1 i_31 i_32 i_34) (h46 : mm_tl i_19 i_32 i_33) (h47 : mm_rls f_0 f_1 2 i_37 i_38) (h48 : mm_acs f_2 2 i_37 i_38 i_40) (h49 : mm_tl i_20 i_38 i_39) (h50 : mm_rls f_0 f_1 3 i_43 i_44) (h51 : mm_acs f_2 3 i_43 i_44 i_46) (h52 : mm_tl i_21 i_44 i_45)  : mm_CI l yX12_mute (mm_ws yX12_mute cX12_mute 2 (some .int)) ({ frames := 14, cells := 0, slots := 0, locals := 300 } : Room) G cy sz [(a_0, .inr (12, [.int i_1, .ref a_1, .ref a_2, .ref a_3, .ref a_4, .ref a_5, .int i_2, .int i_3, .int i_4, .int i_5, .int i_6, .long j_0, .int i_7, .int i_8, .int i_9, .int i_10, .ref a_6, .ref a_7, .ref a_8, .ref a_9, .ref a_10, .ref a_11, .ref a_12, .ref a_13, .ref a_14, .ref a_15, .ref a_16, .ref a_17, .ref a_18, .int i_11, .int i_12, .int i_13, .int i_14, .int i_15, .int i_16, .ref a_19, .int i_17, .ref a_20])), (a_6, .inl (cy 1, 5, .inl (mm_g [i_18, i_19, i_20, i_21, i_22]))), (a_7, .inl (cy 1, 30, .inl (mm_g [i_23, i_24, i_25, i_26, i_27, i_28, i_29, i_30, i_31, i_32, i_33, i_34, i_35, i_36, i_37, i_38, i_39, i_40, i_41, i_42, i_43, i_44, i_45, i_46, i_47, i_48, i_49, i_50, i_51, i_52]))), (a_9, .inl (cy 1, 15, .inl f_0)), (a_10, .inl (cy 1, 1050, .inl f_1)), (a_13, .inl (cy 1, 450, .inl f_2)), (a_15, .inl (cy 1, 7200, .inl f_3)), (a_16, .inl (cy 1, 3, .inl f_4)), (a_17, .inl (cy 1, 3, .inl f_5))] [.ref a_0, .int i_0] (fun u : (Nat → Int32) × (Nat → Int32) × (Nat → Int32) => [(a_0, .inr (12, [.int 0, .ref a_1, .ref a_2, .ref a_3, .ref a_4, .ref a_5, .int i_2, .int i_3, .int i_4, .int i_5, .int i_6, .long j_0, .int i_7, .int i_8, .int i_9, .int i_10, .ref a_6, .ref a_7, .ref a_8, .ref a_9, .ref a_10, .ref a_11, .ref a_12, .ref a_13, .ref a_14, .ref a_15, .ref a_16, .ref a_17, .ref a_18, .int i_11, .int i_12, .int i_13, .int i_14, .int i_15, .int i_16, .ref a_19, .int i_17, .ref a_20])), (a_6, .inl (cy 1, 5, .inl (mm_g [i_18, i_19, i_20, i_21, i_22]))), (a_7, .inl (cy 1, 30, .inl (mm_g [i_23, i_24, i_25, i_26, i_27, i_28, i_29, i_30, i_31, i_32, i_33, i_34, i_35, i_36, i_37, i_38, i_39, i_40, i_41, i_42, i_43, i_44, i_45, i_46, i_47, i_48, i_49, i_50, i_51, i_52]))), (a_9, .inl (cy 1, 15, .inl f_0)), (a_10, .inl (cy 1, 1050, .inl f_1)), (a_13, .inl (cy 1, 450, .inl f_2)), (a_15, .inl (cy 1, 7200, .inl u.1)), (a_16, .inl (cy 1, 3, .inl u.2.1)), (a_17, .inl (cy 1, 3, .inl u.2.2))]) (fun (r : Int32) (u : (Nat → Int32) × (Nat → Int32) × (Nat → Int32)) => mm_ar u.1 0 9 ∧ mm_ar u.2.1 0 210 ∧ mm_ar u.2.2 0 210 ∧ True) 0 0 := by
  refine mm_begin (lv := [(0, .ref a_0), (1, .int i_0)]) (by decide) (Nat.le_of_ble_eq_true rfl) rfl ?_
  intro p e s m below meth c A ls R args Q H locs hRe hQ hAe hx hb hr hlocks hml hown hnm hts hsz hA hS hP hK hD hZ hl
  have hRf : R.frames = 14 := by rw [hRe]
  have hRl : R.locals = 300 := by rw [hRe]
  have hRc : R.cells = 0 := by rw [hRe]
  have hRs : R.slots = 0 := by rw [hRe]
  refine lv_aload_n hx hb dX12_mute_0 rfl (lv_at hl 0 rfl) ?_
  refine lv_iconst (v := 0) hx hb dX12_mute_1 (by decide) ?_
  refine va_put (D := G) (ci := 12) (v := .int 0) (ty := tyX12 0) (C := RX12) (T := TX12) (N := 38) hx hb hts (mm_i inlX12) tyX12 tyX12_ok nmX12 hown hK.1 hP hD hS 0 rfl rfl 0 (by decide) (mm_h hts mm_w177) (fun _ h9 => h9) rfl (tyX12_ok 0 (by decide)) rfl rfl (Nat.le_of_ble_eq_true rfl) dX12_mute_2 ?_
  clear hP hD hS
  clear H locs
  intro H locs (hP : va_P G vwCl [(a_0, .inr (12, [.int 0, .ref a_1, .ref a_2, .ref a_3, .ref a_4, .ref a_5, .int i_2, .int i_3, .int i_4, .int i_5, .int i_6, .long j_0, .int i_7, .int i_8, .int i_9, .int i_10, .ref a_6, .ref a_7, .ref a_8, .ref a_9, .ref a_10, .ref a_11, .ref a_12, .ref a_13, .ref a_14, .ref a_15, .ref a_16, .ref a_17, .ref a_18, .int i_11, .int i_12, .int i_13, .int i_14, .int i_15, .int i_16, .ref a_19, .int i_17, .ref a_20])), (a_6, .inl (cy 1, 5, .inl (mm_g [i_18, i_19, i_20, i_21, i_22]))), (a_7, .inl (cy 1, 30, .inl (mm_g [i_23, i_24, i_25, i_26, i_27, i_28, i_29, i_30, i_31, i_32, i_33, i_34, i_35, i_36, i_37, i_38, i_39, i_40, i_41, i_42, i_43, i_44, i_45, i_46, i_47, i_48, i_49, i_50, i_51, i_52]))), (a_9, .inl (cy 1, 15, .inl f_0)), (a_10, .inl (cy 1, 1050, .inl f_1)), (a_13, .inl (cy 1, 450, .inl f_2)), (a_15, .inl (cy 1, 7200, .inl f_3)), (a_16, .inl (cy 1, 3, .inl f_4)), (a_17, .inl (cy 1, 3, .inl f_5))] H) (hD : va_D A [(a_0, .inr (12, [.int 0, .ref a_1, .ref a_2, .ref a_3, .ref a_4, .ref a_5, .int i_2, .int i_3, .int i_4, .int i_5, .int i_6, .long j_0, .int i_7, .int i_8, .int i_9, .int i_10, .ref a_6, .ref a_7, .ref a_8, .ref a_9, .ref a_10, .ref a_11, .ref a_12, .ref a_13, .ref a_14, .ref a_15, .ref a_16, .ref a_17, .ref a_18, .int i_11, .int i_12, .int i_13, .int i_14, .int i_15, .int i_16, .ref a_19, .int i_17, .ref a_20])), (a_6, .inl (cy 1, 5, .inl (mm_g [i_18, i_19, i_20, i_21, i_22]))), (a_7, .inl (cy 1, 30, .inl (mm_g [i_23, i_24, i_25, i_26, i_27, i_28, i_29, i_30, i_31, i_32, i_33, i_34, i_35, i_36, i_37, i_38, i_39, i_40, i_41, i_42, i_43, i_44, i_45, i_46, i_47, i_48, i_49, i_50, i_51, i_52]))), (a_9, .inl (cy 1, 15, .inl f_0)), (a_10, .inl (cy 1, 1050, .inl f_1)), (a_13, .inl (cy 1, 450, .inl f_2)), (a_15, .inl (cy 1, 7200, .inl f_3)), (a_16, .inl (cy 1, 3, .inl f_4)), (a_17, .inl (cy 1, 3, .inl f_5))]) hS
  refine lv_aload_n hx hb dX12_mute_5 rfl (lv_at hl 0 rfl) ?_
  refine lv_iload_n hx hb dX12_mute_6 rfl (lv_at hl 1 rfl) ?_
  refine mm_finir (va_runV (As := [.int i_0]) (rest := []) ⟨hx, hb, hml, hown, hts⟩ (M98_X12_isLand l G cy H.size a_0 i_0 0 a_1 a_2 a_3 a_4 a_5 i_2 i_3 i_4 i_5 i_6 j_0 i_7 i_8 i_9 i_10 a_6 a_7 a_8 a_9 a_10 a_11 a_12 a_13 a_14 a_15 a_16 a_17 a_18 i_11 i_12 i_13 i_14 i_15 i_16 a_19 i_17 a_20 i_23 i_24 i_25 i_26 i_27 i_28 i_29 i_30 i_31 i_32 i_33 i_34 i_35 i_36 i_37 i_38 i_39 i_40 i_41 i_42 i_43 i_44 i_45 i_46 i_47 i_48 i_49 i_50 i_51 i_52 h5 h6 h7 h8 h9 h10 h11 h12 h13 h14 h15 h16 h17 h18 h19 h20 h21 h22 h23 h24 h25 h26 h27 h28 h29 h30 h31 h32 h33 h34) (cwV 1 hts (mm_gV mm_w641 mm_w642 mm_w643 mm_w5 mm_w644) rfl rfl rfl hd_X12_isLand ⟨by rw [hRf]; exact Nat.le_of_ble_eq_true rfl, by rw [hRl]; exact Nat.le_of_ble_eq_true rfl⟩) (mm_preV hK hZ hS hA hP hD [0, 2] rfl rfl 0 rfl rfl rfl) rfl rfl hl.1 rfl (lv_room (Nat.le_of_ble_eq_true rfl)) dX12_mute_7 ⟨by rw [hRc]; exact Nat.le_of_ble_eq_true rfl, by rw [hRs]; exact Nat.le_of_ble_eq_true rfl⟩) hP hD hS hA [0, 2] rfl (fun _ => rfl) ?_
  clear hP hD hS
  clear H locs
  intro v1 _u H locs hw hP hD hS
  rcases hw with rfl | ⟨rfl, w2, w3⟩
  · refine lv_if_ne (tgt := 16) hx hb dX12_mute_10 (by decide) (fun c4 => ?_) (fun c4 => ?_)
    · exact absurd rfl (mm_ne c4)
    · refine lv_bipush (v := (-2)) hx hb dX12_mute_13 (by decide) ?_
      subst hAe
      rw [hQ]
      exact W.iret (v := (-2)) hx hb hr (fun t ht hW => ⟨⟨(-2), (f_3, f_4, f_5), rfl, ⟨h38, h39, h40, trivial⟩, by rw [ht]; exact hP, hK.warm hW, hD⟩, hS.F ht⟩) hS.2.2 dX12_mute_15
  · have q5 := mm_ltR (lo := 1) w3 w2 h8 (by decide)
    have q6 : mm_rg i_18 1 601 := mm_tl_3 h43 q5 h0 (by decide)
    refine lv_if_ne (tgt := 16) hx hb dX12_mute_10 (by decide) (fun c7 => ?_) (fun c7 => ?_)
    · refine lv_aload_n hx hb dX12_mute_16 rfl (lv_at hl 0 rfl) ?_
      refine mm_finv (va_runV (As := []) (rest := []) ⟨hx, hb, hml, hown, hts⟩ (M125_X12_lays l G cy H.size a_0 0 a_1 a_2 a_3 a_4 a_5 i_2 i_3 i_4 i_5 i_6 j_0 i_7 i_8 i_9 i_10 a_6 a_7 a_8 a_9 a_10 a_11 a_12 a_13 a_14 a_15 a_16 a_17 a_18 i_11 i_12 i_13 i_14 i_15 i_16 a_19 i_17 a_20 i_18 i_19 i_20 i_21 i_22 i_23 i_24 i_25 i_26 i_27 i_28 i_29 i_30 i_31 i_32 i_33 i_34 i_35 i_36 i_37 i_38 i_39 i_40 i_41 i_42 i_43 i_44 i_45 i_46 i_47 i_48 i_49 i_50 i_51 i_52 f_0 f_1 f_2 f_3 f_4 f_5 (mm_wk q6 (by decide)) h1 h2 h3 h4 h5 h6 h7 (mm_wk q5 (by decide)) h9 h10 h11 h12 h13 h14 h15 h16 h17 h18 h19 h20 h21 h22 h23 h24 h25 h26 h27 h28 h29 h30 h31 h32 h33 h34 h35 h36 h37 h38 h39 h40 h41 h42 h43 h44 h45 h46 h47 h48 h49 h50 h51 h52) (cwV 0 hts (mm_gV mm_w686 mm_w687 mm_w688 mm_w5 mm_w689) rfl rfl rfl hd_X12_lays ⟨by rw [hRf]; exact Nat.le_of_ble_eq_true rfl, by rw [hRl]; exact Nat.le_of_ble_eq_true rfl⟩) (mm_preV hK hZ hS hA hP hD [0, 1, 2, 3, 4, 5, 6, 7, 8] rfl rfl 0 rfl rfl rfl) rfl rfl hl.1 rfl (lv_room (Nat.le_of_ble_eq_true rfl)) dX12_mute_17 ⟨by rw [hRc]; exact Nat.le_of_ble_eq_true rfl, by rw [hRs]; exact Nat.le_of_ble_eq_true rfl⟩) hP hD hS hA (fun u : (Nat → Int32) × (Nat → Int32) × (Nat → Int32) => [(a_0, .inr (12, [.int 0, .ref a_1, .ref a_2, .ref a_3, .ref a_4, .ref a_5, .int i_2, .int i_3, .int i_4, .int i_5, .int i_6, .long j_0, .int i_7, .int i_8, .int i_9, .int i_10, .ref a_6, .ref a_7, .ref a_8, .ref a_9, .ref a_10, .ref a_11, .ref a_12, .ref a_13, .ref a_14, .ref a_15, .ref a_16, .ref a_17, .ref a_18, .int i_11, .int i_12, .int i_13, .int i_14, .int i_15, .int i_16, .ref a_19, .int i_17, .ref a_20])), (a_6, .inl (cy 1, 5, .inl (mm_g [i_18, i_19, i_20, i_21, i_22]))), (a_7, .inl (cy 1, 30, .inl (mm_g [i_23, i_24, i_25, i_26, i_27, i_28, i_29, i_30, i_31, i_32, i_33, i_34, i_35, i_36, i_37, i_38, i_39, i_40, i_41, i_42, i_43, i_44, i_45, i_46, i_47, i_48, i_49, i_50, i_51, i_52]))), (a_9, .inl (cy 1, 15, .inl f_0)), (a_10, .inl (cy 1, 1050, .inl f_1)), (a_13, .inl (cy 1, 450, .inl f_2)), (a_15, .inl (cy 1, 7200, .inl u.1)), (a_16, .inl (cy 1, 3, .inl u.2.1)), (a_17, .inl (cy 1, 3, .inl u.2.2))]) [0, 1, 2, 3, 4, 5, 6, 7, 8] [] (n := 9) (fun _ => rfl) (by decide +kernel) (by decide +kernel) rfl (fun _ => rfl) (wr := []) rfl (fun _ => rfl) (fun _ => @rfl _ ([a_0, a_6, a_7, a_9, a_10, a_13, a_15, a_16, a_17] : List Nat)) ?_
      clear hP hD hS
      clear H locs
      intro u
      obtain ⟨n8, n9, n10⟩ := u
      intro H locs hw (hP : va_P G vwCl [(a_0, .inr (12, [.int 0, .ref a_1, .ref a_2, .ref a_3, .ref a_4, .ref a_5, .int i_2, .int i_3, .int i_4, .int i_5, .int i_6, .long j_0, .int i_7, .int i_8, .int i_9, .int i_10, .ref a_6, .ref a_7, .ref a_8, .ref a_9, .ref a_10, .ref a_11, .ref a_12, .ref a_13, .ref a_14, .ref a_15, .ref a_16, .ref a_17, .ref a_18, .int i_11, .int i_12, .int i_13, .int i_14, .int i_15, .int i_16, .ref a_19, .int i_17, .ref a_20])), (a_6, .inl (cy 1, 5, .inl (mm_g [i_18, i_19, i_20, i_21, i_22]))), (a_7, .inl (cy 1, 30, .inl (mm_g [i_23, i_24, i_25, i_26, i_27, i_28, i_29, i_30, i_31, i_32, i_33, i_34, i_35, i_36, i_37, i_38, i_39, i_40, i_41, i_42, i_43, i_44, i_45, i_46, i_47, i_48, i_49, i_50, i_51, i_52]))), (a_9, .inl (cy 1, 15, .inl f_0)), (a_10, .inl (cy 1, 1050, .inl f_1)), (a_13, .inl (cy 1, 450, .inl f_2)), (a_15, .inl (cy 1, 7200, .inl n8)), (a_16, .inl (cy 1, 3, .inl n9)), (a_17, .inl (cy 1, 3, .inl n10))] H) (hD : va_D A [(a_0, .inr (12, [.int 0, .ref a_1, .ref a_2, .ref a_3, .ref a_4, .ref a_5, .int i_2, .int i_3, .int i_4, .int i_5, .int i_6, .long j_0, .int i_7, .int i_8, .int i_9, .int i_10, .ref a_6, .ref a_7, .ref a_8, .ref a_9, .ref a_10, .ref a_11, .ref a_12, .ref a_13, .ref a_14, .ref a_15, .ref a_16, .ref a_17, .ref a_18, .int i_11, .int i_12, .int i_13, .int i_14, .int i_15, .int i_16, .ref a_19, .int i_17, .ref a_20])), (a_6, .inl (cy 1, 5, .inl (mm_g [i_18, i_19, i_20, i_21, i_22]))), (a_7, .inl (cy 1, 30, .inl (mm_g [i_23, i_24, i_25, i_26, i_27, i_28, i_29, i_30, i_31, i_32, i_33, i_34, i_35, i_36, i_37, i_38, i_39, i_40, i_41, i_42, i_43, i_44, i_45, i_46, i_47, i_48, i_49, i_50, i_51, i_52]))), (a_9, .inl (cy 1, 15, .inl f_0)), (a_10, .inl (cy 1, 1050, .inl f_1)), (a_13, .inl (cy 1, 450, .inl f_2)), (a_15, .inl (cy 1, 7200, .inl n8)), (a_16, .inl (cy 1, 3, .inl n9)), (a_17, .inl (cy 1, 3, .inl n10))]) hS
      obtain ⟨w11, w12, w13, w14, w15⟩ := hw
      replace w14 : mm_laid n9 n10 i_26 := w14
      replace w15 : mm_tab n8 n9 i_25 i_26 := w15
      refine lv_aload_n hx hb dX12_mute_20 rfl (lv_at hl 0 rfl) ?_
      refine lv_iload_n hx hb dX12_mute_21 rfl (lv_at hl 1 rfl) ?_
      refine lv_aload_n hx hb dX12_mute_22 rfl (lv_at hl 0 rfl) ?_
      refine lv_iload_n hx hb dX12_mute_23 rfl (lv_at hl 1 rfl) ?_
      refine mm_finir (va_runV (As := [.int i_0]) (rest := [.int i_0, .ref a_0]) ⟨hx, hb, hml, hown, hts⟩ (M134_X12_mutedOf l G cy H.size a_0 i_0 0 a_1 a_2 a_3 a_4 a_5 i_2 i_3 i_4 i_5 i_6 j_0 i_7 i_8 i_9 i_10 a_6 a_7 a_8 a_9 a_10 a_11 a_12 a_13 a_14 a_15 a_16 a_17 a_18 i_11 i_12 i_13 i_14 i_15 i_16 a_19 i_17 a_20 i_18 i_19 i_20 i_21 i_22 i_23 i_24 i_25 i_26 i_27 i_28 i_29 i_30 i_31 i_32 i_33 i_34 i_35 i_36 i_37 i_38 i_39 i_40 i_41 i_42 i_43 i_44 i_45 i_46 i_47 i_48 i_49 i_50 i_51 i_52 n8 n9 n10 w2 (mm_wk q6 (by decide)) h1 h2 h3 h4 h5 h6 h7 (mm_wk q5 (by decide)) h9 h10 h11 h12 h13 h14 h15 h16 h17 h18 h19 h20 h21 h22 h23 h24 h25 h26 h27 h28 h29 h30 h31 h32 h33 h34 w11 w12 w13 h43 h46 h49 h52 (mm_f1_l w14 w3 w2 (by decide))) (cwV 1 hts (mm_gV mm_w797 mm_w798 mm_w799 mm_w5 mm_w800) rfl rfl rfl hd_X12_mutedOf ⟨by rw [hRf]; exact Nat.le_of_ble_eq_true rfl, by rw [hRl]; exact Nat.le_of_ble_eq_true rfl⟩) (mm_preV hK hZ hS hA hP hD [0, 1, 2, 6, 7, 8] rfl rfl 0 rfl rfl rfl) rfl rfl hl.1 rfl (lv_room (Nat.le_of_ble_eq_true rfl)) dX12_mute_24 ⟨by rw [hRc]; exact Nat.le_of_ble_eq_true rfl, by rw [hRs]; exact Nat.le_of_ble_eq_true rfl⟩) hP hD hS hA [0, 1, 2, 6, 7, 8] rfl (fun _ => rfl) ?_
      clear hP hD hS
      clear H locs
      intro v16 _u H locs hw hP hD hS
      have w17 := hw
      refine lv_aload_n hx hb dX12_mute_27 rfl (lv_at hl 0 rfl) ?_
      refine mm_finir (va_runV (As := []) (rest := [.int v16, .int i_0, .ref a_0]) ⟨hx, hb, hml, hown, hts⟩ (M92_X12_senses l G cy H.size a_0 0 a_1 a_2 a_3 a_4 a_5 i_2 i_3 i_4 i_5 i_6 j_0 i_7 i_8 i_9 i_10 a_6 a_7 a_8 a_9 a_10 a_11 a_12 a_13 a_14 a_15 a_16 a_17 a_18 i_11 i_12 i_13 i_14 i_15 i_16 a_19 i_17 a_20 i_23 i_24 i_25 i_26 i_27 i_28 i_29 i_30 i_31 i_32 i_33 i_34 i_35 i_36 i_37 i_38 i_39 i_40 i_41 i_42 i_43 i_44 i_45 i_46 i_47 i_48 i_49 i_50 i_51 i_52 h5 h6 h7 (mm_wk q5 (by decide)) h9 h10 h11 h12 h13 h14 h15 h16 h17 h18 h19 h20 h21 h22 h23 h24 h25 h26 h27 h28 h29 h30 h31 h32 h33 h34) (cwV 0 hts (mm_gV mm_w588 mm_w589 mm_w590 mm_w5 mm_w591) rfl rfl rfl hd_X12_senses ⟨by rw [hRf]; exact Nat.le_of_ble_eq_true rfl, by rw [hRl]; exact Nat.le_of_ble_eq_true rfl⟩) (mm_preV hK hZ hS hA hP hD [0, 2] rfl rfl 0 rfl rfl rfl) rfl rfl hl.1 rfl (lv_room (Nat.le_of_ble_eq_true rfl)) dX12_mute_28 ⟨by rw [hRc]; exact Nat.le_of_ble_eq_true rfl, by rw [hRs]; exact Nat.le_of_ble_eq_true rfl⟩) hP hD hS hA [0, 2] rfl (fun _ => rfl) ?_
      clear hP hD hS
      clear H locs
      intro v18 _u H locs hw hP hD hS
      subst hw
      refine mm_finir (va_runV (As := [.int i_0, .int v16, .int i_25]) (rest := []) ⟨hx, hb, hml, hown, hts⟩ (M131_X12_oftenOf l G cy H.size a_0 i_0 v16 i_25 0 a_1 a_2 a_3 a_4 a_5 i_2 i_3 i_4 i_5 i_6 j_0 i_7 i_8 i_9 i_10 a_6 a_7 a_8 a_9 a_10 a_11 a_12 a_13 a_14 a_15 a_16 a_17 a_18 i_11 i_12 i_13 i_14 i_15 i_16 a_19 i_17 a_20 n8 n9 n10 w2 w17 h7 w11 w12 w13 (mm_f1_l w14 w3 w2 (by decide))) (cwV 3 hts (mm_gV mm_w773 mm_w774 mm_w775 mm_w5 mm_w776) rfl rfl rfl hd_X12_oftenOf ⟨by rw [hRf]; exact Nat.le_of_ble_eq_true rfl, by rw [hRl]; exact Nat.le_of_ble_eq_true rfl⟩) (mm_preV hK hZ hS hA hP hD [0, 6, 7, 8] rfl rfl 0 rfl rfl rfl) rfl rfl hl.1 rfl (lv_room (Nat.le_of_ble_eq_true rfl)) dX12_mute_31 ⟨by rw [hRc]; exact Nat.le_of_ble_eq_true rfl, by rw [hRs]; exact Nat.le_of_ble_eq_true rfl⟩) hP hD hS hA [0, 6, 7, 8] rfl (fun _ => rfl) ?_
      clear hP hD hS
      clear H locs
      intro v19 _u H locs hw hP hD hS
      subst hAe
      rw [hQ]
      exact W.iret (v := v19) hx hb hr (fun t ht hW => ⟨⟨v19, (n8, n9, n10), rfl, ⟨w11, w12, w13, trivial⟩, by rw [ht]; exact hP, hK.warm hW, hD⟩, hS.F ht⟩) hS.2.2 dX12_mute_34
    · exact mm_eqN c7.symm mm_k0 mm_k1 (by decide)

