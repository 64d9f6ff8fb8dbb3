theorem dX12_laysLand_0 : decode cX12_laysLand 0 = .ok (.iconst 0, 1) := by decide +kernel
theorem dX12_laysLand_1 : decode cX12_laysLand 1 = .ok (.istore_n 2, 1) := by decide +kernel
theorem dX12_laysLand_2 : decode cX12_laysLand 2 = .ok (.iload_n 2, 1) := by decide +kernel
theorem dX12_laysLand_3 : decode cX12_laysLand 3 = .ok (.aload_n 0, 1) := by decide +kernel
theorem dX12_laysLand_4 : decode cX12_laysLand 4 = .ok (.invokevirtual 257, 3) := by decide +kernel
theorem dX12_laysLand_7 : decode cX12_laysLand 7 = .ok (.if_icmp .ge 22, 3) := by decide +kernel
theorem dX12_laysLand_10 : decode cX12_laysLand 10 = .ok (.aload_n 0, 1) := by decide +kernel
theorem dX12_laysLand_11 : decode cX12_laysLand 11 = .ok (.getfield 59, 3) := by decide +kernel
theorem dX12_laysLand_14 : decode cX12_laysLand 14 = .ok (.sipush 2400, 3) := by decide +kernel
theorem dX12_laysLand_17 : decode cX12_laysLand 17 = .ok (.iload_n 1, 1) := by decide +kernel
theorem dX12_laysLand_18 : decode cX12_laysLand 18 = .ok (.imul, 1) := by decide +kernel
theorem dX12_laysLand_19 : decode cX12_laysLand 19 = .ok (.iload_n 2, 1) := by decide +kernel
theorem dX12_laysLand_20 : decode cX12_laysLand 20 = .ok (.iadd, 1) := by decide +kernel
theorem dX12_laysLand_21 : decode cX12_laysLand 21 = .ok (.iload_n 2, 1) := by decide +kernel
theorem dX12_laysLand_22 : decode cX12_laysLand 22 = .ok (.iastore, 1) := by decide +kernel
theorem dX12_laysLand_23 : decode cX12_laysLand 23 = .ok (.iinc 2 1, 3) := by decide +kernel
theorem dX12_laysLand_26 : decode cX12_laysLand 26 = .ok (.goto (-24), 3) := by decide +kernel
theorem dX12_laysLand_29 : decode cX12_laysLand 29 = .ok (.iconst 0, 1) := by decide +kernel
theorem dX12_laysLand_30 : decode cX12_laysLand 30 = .ok (.istore_n 2, 1) := by decide +kernel
theorem dX12_laysLand_31 : decode cX12_laysLand 31 = .ok (.iload_n 2, 1) := by decide +kernel
theorem dX12_laysLand_32 : decode cX12_laysLand 32 = .ok (.aload_n 0, 1) := by decide +kernel
theorem dX12_laysLand_33 : decode cX12_laysLand 33 = .ok (.getfield 34, 3) := by decide +kernel
theorem dX12_laysLand_36 : decode cX12_laysLand 36 = .ok (.iconst 5, 1) := by decide +kernel
theorem dX12_laysLand_37 : decode cX12_laysLand 37 = .ok (.iaload, 1) := by decide +kernel
theorem dX12_laysLand_38 : decode cX12_laysLand 38 = .ok (.if_icmp .ge 89, 3) := by decide +kernel
theorem dX12_laysLand_41 : decode cX12_laysLand 41 = .ok (.aload_n 0, 1) := by decide +kernel
theorem dX12_laysLand_42 : decode cX12_laysLand 42 = .ok (.getfield 52, 3) := by decide +kernel
theorem dX12_laysLand_45 : decode cX12_laysLand 45 = .ok (.iconst 3, 1) := by decide +kernel
theorem dX12_laysLand_46 : decode cX12_laysLand 46 = .ok (.iload_n 2, 1) := by decide +kernel
theorem dX12_laysLand_47 : decode cX12_laysLand 47 = .ok (.imul, 1) := by decide +kernel
theorem dX12_laysLand_48 : decode cX12_laysLand 48 = .ok (.iaload, 1) := by decide +kernel
theorem dX12_laysLand_49 : decode cX12_laysLand 49 = .ok (.iload_n 1, 1) := by decide +kernel
theorem dX12_laysLand_50 : decode cX12_laysLand 50 = .ok (.if_icmp .eq 6, 3) := by decide +kernel
theorem dX12_laysLand_53 : decode cX12_laysLand 53 = .ok (.goto 68, 3) := by decide +kernel
theorem dX12_laysLand_56 : decode cX12_laysLand 56 = .ok (.sipush 2400, 3) := by decide +kernel
theorem dX12_laysLand_59 : decode cX12_laysLand 59 = .ok (.iload_n 1, 1) := by decide +kernel
theorem dX12_laysLand_60 : decode cX12_laysLand 60 = .ok (.imul, 1) := by decide +kernel
theorem dX12_laysLand_61 : decode cX12_laysLand 61 = .ok (.aload_n 0, 1) := by decide +kernel
theorem dX12_laysLand_62 : decode cX12_laysLand 62 = .ok (.getfield 52, 3) := by decide +kernel
theorem dX12_laysLand_65 : decode cX12_laysLand 65 = .ok (.iconst 3, 1) := by decide +kernel
theorem dX12_laysLand_66 : decode cX12_laysLand 66 = .ok (.iload_n 2, 1) := by decide +kernel
theorem dX12_laysLand_67 : decode cX12_laysLand 67 = .ok (.imul, 1) := by decide +kernel
theorem dX12_laysLand_68 : decode cX12_laysLand 68 = .ok (.iconst 1, 1) := by decide +kernel
theorem dX12_laysLand_69 : decode cX12_laysLand 69 = .ok (.iadd, 1) := by decide +kernel
theorem dX12_laysLand_70 : decode cX12_laysLand 70 = .ok (.iaload, 1) := by decide +kernel
theorem dX12_laysLand_71 : decode cX12_laysLand 71 = .ok (.iadd, 1) := by decide +kernel
theorem dX12_laysLand_72 : decode cX12_laysLand 72 = .ok (.istore_n 3, 1) := by decide +kernel
theorem dX12_laysLand_73 : decode cX12_laysLand 73 = .ok (.sipush 2400, 3) := by decide +kernel
theorem dX12_laysLand_76 : decode cX12_laysLand 76 = .ok (.iload_n 1, 1) := by decide +kernel
theorem dX12_laysLand_77 : decode cX12_laysLand 77 = .ok (.imul, 1) := by decide +kernel
theorem dX12_laysLand_78 : decode cX12_laysLand 78 = .ok (.aload_n 0, 1) := by decide +kernel
theorem dX12_laysLand_79 : decode cX12_laysLand 79 = .ok (.getfield 52, 3) := by decide +kernel
theorem dX12_laysLand_82 : decode cX12_laysLand 82 = .ok (.iconst 3, 1) := by decide +kernel
theorem dX12_laysLand_83 : decode cX12_laysLand 83 = .ok (.iload_n 2, 1) := by decide +kernel
theorem dX12_laysLand_84 : decode cX12_laysLand 84 = .ok (.imul, 1) := by decide +kernel
theorem dX12_laysLand_85 : decode cX12_laysLand 85 = .ok (.iconst 2, 1) := by decide +kernel
theorem dX12_laysLand_86 : decode cX12_laysLand 86 = .ok (.iadd, 1) := by decide +kernel
theorem dX12_laysLand_87 : decode cX12_laysLand 87 = .ok (.iaload, 1) := by decide +kernel
theorem dX12_laysLand_88 : decode cX12_laysLand 88 = .ok (.iadd, 1) := by decide +kernel
theorem dX12_laysLand_89 : decode cX12_laysLand 89 = .ok (.istore 4, 2) := by decide +kernel
theorem dX12_laysLand_91 : decode cX12_laysLand 91 = .ok (.aload_n 0, 1) := by decide +kernel
theorem dX12_laysLand_92 : decode cX12_laysLand 92 = .ok (.getfield 59, 3) := by decide +kernel
theorem dX12_laysLand_95 : decode cX12_laysLand 95 = .ok (.iload_n 3, 1) := by decide +kernel
theorem dX12_laysLand_96 : decode cX12_laysLand 96 = .ok (.iaload, 1) := by decide +kernel
theorem dX12_laysLand_97 : decode cX12_laysLand 97 = .ok (.istore 5, 2) := by decide +kernel
theorem dX12_laysLand_99 : decode cX12_laysLand 99 = .ok (.aload_n 0, 1) := by decide +kernel
theorem dX12_laysLand_100 : decode cX12_laysLand 100 = .ok (.getfield 59, 3) := by decide +kernel
theorem dX12_laysLand_103 : decode cX12_laysLand 103 = .ok (.iload_n 3, 1) := by decide +kernel
theorem dX12_laysLand_104 : decode cX12_laysLand 104 = .ok (.aload_n 0, 1) := by decide +kernel
theorem dX12_laysLand_105 : decode cX12_laysLand 105 = .ok (.getfield 59, 3) := by decide +kernel
theorem dX12_laysLand_108 : decode cX12_laysLand 108 = .ok (.iload 4, 2) := by decide +kernel
theorem dX12_laysLand_110 : decode cX12_laysLand 110 = .ok (.iaload, 1) := by decide +kernel
theorem dX12_laysLand_111 : decode cX12_laysLand 111 = .ok (.iastore, 1) := by decide +kernel
theorem dX12_laysLand_112 : decode cX12_laysLand 112 = .ok (.aload_n 0, 1) := by decide +kernel
theorem dX12_laysLand_113 : decode cX12_laysLand 113 = .ok (.getfield 59, 3) := by decide +kernel
theorem dX12_laysLand_116 : decode cX12_laysLand 116 = .ok (.iload 4, 2) := by decide +kernel
theorem dX12_laysLand_118 : decode cX12_laysLand 118 = .ok (.iload 5, 2) := by decide +kernel
theorem dX12_laysLand_120 : decode cX12_laysLand 120 = .ok (.iastore, 1) := by decide +kernel
theorem dX12_laysLand_121 : decode cX12_laysLand 121 = .ok (.iinc 2 1, 3) := by decide +kernel
theorem dX12_laysLand_124 : decode cX12_laysLand 124 = .ok (.goto (-93), 3) := by decide +kernel
theorem dX12_laysLand_127 : decode cX12_laysLand 127 = .ok (.aload_n 0, 1) := by decide +kernel
theorem dX12_laysLand_128 : decode cX12_laysLand 128 = .ok (.getfield 62, 3) := by decide +kernel
theorem dX12_laysLand_131 : decode cX12_laysLand 131 = .ok (.iload_n 1, 1) := by decide +kernel
theorem dX12_laysLand_132 : decode cX12_laysLand 132 = .ok (.aload_n 0, 1) := by decide +kernel
theorem dX12_laysLand_133 : decode cX12_laysLand 133 = .ok (.getfield 40, 3) := by decide +kernel
theorem dX12_laysLand_136 : decode cX12_laysLand 136 = .ok (.iload_n 1, 1) := by decide +kernel
theorem dX12_laysLand_137 : decode cX12_laysLand 137 = .ok (.iaload, 1) := by decide +kernel
theorem dX12_laysLand_138 : decode cX12_laysLand 138 = .ok (.ifCond .ne 7, 3) := by decide +kernel
theorem dX12_laysLand_141 : decode cX12_laysLand 141 = .ok (.iconst 1, 1) := by decide +kernel
theorem dX12_laysLand_142 : decode cX12_laysLand 142 = .ok (.goto 15, 3) := by decide +kernel
theorem dX12_laysLand_145 : decode cX12_laysLand 145 = .ok (.aload_n 0, 1) := by decide +kernel
theorem dX12_laysLand_146 : decode cX12_laysLand 146 = .ok (.getfield 40, 3) := by decide +kernel
theorem dX12_laysLand_149 : decode cX12_laysLand 149 = .ok (.iload_n 1, 1) := by decide +kernel
theorem dX12_laysLand_150 : decode cX12_laysLand 150 = .ok (.iaload, 1) := by decide +kernel
theorem dX12_laysLand_151 : decode cX12_laysLand 151 = .ok (.aload_n 0, 1) := by decide +kernel
theorem dX12_laysLand_152 : decode cX12_laysLand 152 = .ok (.iload_n 1, 1) := by decide +kernel
theorem dX12_laysLand_153 : decode cX12_laysLand 153 = .ok (.invokevirtual 282, 3) := by decide +kernel
theorem dX12_laysLand_156 : decode cX12_laysLand 156 = .ok (.imul, 1) := by decide +kernel
theorem dX12_laysLand_157 : decode cX12_laysLand 157 = .ok (.iastore, 1) := by decide +kernel
theorem dX12_laysLand_158 : decode cX12_laysLand 158 = .ok (.iconst 0, 1) := by decide +kernel
theorem dX12_laysLand_159 : decode cX12_laysLand 159 = .ok (.istore_n 2, 1) := by decide +kernel
theorem dX12_laysLand_160 : decode cX12_laysLand 160 = .ok (.iload_n 2, 1) := by decide +kernel
theorem dX12_laysLand_161 : decode cX12_laysLand 161 = .ok (.iconst 1, 1) := by decide +kernel
theorem dX12_laysLand_162 : decode cX12_laysLand 162 = .ok (.iadd, 1) := by decide +kernel
theorem dX12_laysLand_163 : decode cX12_laysLand 163 = .ok (.aload_n 0, 1) := by decide +kernel
theorem dX12_laysLand_164 : decode cX12_laysLand 164 = .ok (.getfield 62, 3) := by decide +kernel
theorem dX12_laysLand_167 : decode cX12_laysLand 167 = .ok (.iload_n 1, 1) := by decide +kernel
theorem dX12_laysLand_168 : decode cX12_laysLand 168 = .ok (.iaload, 1) := by decide +kernel
theorem dX12_laysLand_169 : decode cX12_laysLand 169 = .ok (.if_icmp .ge 89, 3) := by decide +kernel
theorem dX12_laysLand_172 : decode cX12_laysLand 172 = .ok (.bipush 10, 2) := by decide +kernel
theorem dX12_laysLand_174 : decode cX12_laysLand 174 = .ok (.bipush 7, 2) := by decide +kernel
theorem dX12_laysLand_176 : decode cX12_laysLand 176 = .ok (.iload_n 1, 1) := by decide +kernel
theorem dX12_laysLand_177 : decode cX12_laysLand 177 = .ok (.imul, 1) := by decide +kernel
theorem dX12_laysLand_178 : decode cX12_laysLand 178 = .ok (.iload_n 2, 1) := by decide +kernel
theorem dX12_laysLand_179 : decode cX12_laysLand 179 = .ok (.aload_n 0, 1) := by decide +kernel
theorem dX12_laysLand_180 : decode cX12_laysLand 180 = .ok (.getfield 40, 3) := by decide +kernel
theorem dX12_laysLand_183 : decode cX12_laysLand 183 = .ok (.iload_n 1, 1) := by decide +kernel
theorem dX12_laysLand_184 : decode cX12_laysLand 184 = .ok (.iaload, 1) := by decide +kernel
theorem dX12_laysLand_185 : decode cX12_laysLand 185 = .ok (.irem, 1) := by decide +kernel
theorem dX12_laysLand_186 : decode cX12_laysLand 186 = .ok (.iadd, 1) := by decide +kernel
theorem dX12_laysLand_187 : decode cX12_laysLand 187 = .ok (.imul, 1) := by decide +kernel
theorem dX12_laysLand_188 : decode cX12_laysLand 188 = .ok (.istore_n 3, 1) := by decide +kernel
theorem dX12_laysLand_189 : decode cX12_laysLand 189 = .ok (.iconst 0, 1) := by decide +kernel
theorem dX12_laysLand_190 : decode cX12_laysLand 190 = .ok (.istore 4, 2) := by decide +kernel
theorem dX12_laysLand_192 : decode cX12_laysLand 192 = .ok (.iload 4, 2) := by decide +kernel
theorem dX12_laysLand_194 : decode cX12_laysLand 194 = .ok (.aload_n 0, 1) := by decide +kernel
theorem dX12_laysLand_195 : decode cX12_laysLand 195 = .ok (.invokevirtual 257, 3) := by decide +kernel
theorem dX12_laysLand_198 : decode cX12_laysLand 198 = .ok (.if_icmp .ge 54, 3) := by decide +kernel
theorem dX12_laysLand_201 : decode cX12_laysLand 201 = .ok (.aload_n 0, 1) := by decide +kernel
theorem dX12_laysLand_202 : decode cX12_laysLand 202 = .ok (.getfield 59, 3) := by decide +kernel
theorem dX12_laysLand_205 : decode cX12_laysLand 205 = .ok (.sipush 2400, 3) := by decide +kernel
theorem dX12_laysLand_208 : decode cX12_laysLand 208 = .ok (.iload_n 1, 1) := by decide +kernel
theorem dX12_laysLand_209 : decode cX12_laysLand 209 = .ok (.imul, 1) := by decide +kernel
theorem dX12_laysLand_210 : decode cX12_laysLand 210 = .ok (.bipush 10, 2) := by decide +kernel
theorem dX12_laysLand_212 : decode cX12_laysLand 212 = .ok (.iload_n 2, 1) := by decide +kernel
theorem dX12_laysLand_213 : decode cX12_laysLand 213 = .ok (.iconst 1, 1) := by decide +kernel
theorem dX12_laysLand_214 : decode cX12_laysLand 214 = .ok (.iadd, 1) := by decide +kernel
theorem dX12_laysLand_215 : decode cX12_laysLand 215 = .ok (.imul, 1) := by decide +kernel
theorem dX12_laysLand_216 : decode cX12_laysLand 216 = .ok (.iadd, 1) := by decide +kernel
theorem dX12_laysLand_217 : decode cX12_laysLand 217 = .ok (.iload 4, 2) := by decide +kernel
theorem dX12_laysLand_219 : decode cX12_laysLand 219 = .ok (.iadd, 1) := by decide +kernel
theorem dX12_laysLand_220 : decode cX12_laysLand 220 = .ok (.aload_n 0, 1) := by decide +kernel
theorem dX12_laysLand_221 : decode cX12_laysLand 221 = .ok (.getfield 59, 3) := by decide +kernel
theorem dX12_laysLand_224 : decode cX12_laysLand 224 = .ok (.sipush 2400, 3) := by decide +kernel
theorem dX12_laysLand_227 : decode cX12_laysLand 227 = .ok (.iload_n 1, 1) := by decide +kernel
theorem dX12_laysLand_228 : decode cX12_laysLand 228 = .ok (.imul, 1) := by decide +kernel
theorem dX12_laysLand_229 : decode cX12_laysLand 229 = .ok (.bipush 10, 2) := by decide +kernel
theorem dX12_laysLand_231 : decode cX12_laysLand 231 = .ok (.iload_n 2, 1) := by decide +kernel
theorem dX12_laysLand_232 : decode cX12_laysLand 232 = .ok (.imul, 1) := by decide +kernel
theorem dX12_laysLand_233 : decode cX12_laysLand 233 = .ok (.iadd, 1) := by decide +kernel
theorem dX12_laysLand_234 : decode cX12_laysLand 234 = .ok (.aload_n 0, 1) := by decide +kernel
theorem dX12_laysLand_235 : decode cX12_laysLand 235 = .ok (.getfield 43, 3) := by decide +kernel
theorem dX12_laysLand_238 : decode cX12_laysLand 238 = .ok (.iload_n 3, 1) := by decide +kernel
theorem dX12_laysLand_239 : decode cX12_laysLand 239 = .ok (.iload 4, 2) := by decide +kernel
theorem dX12_laysLand_241 : decode cX12_laysLand 241 = .ok (.iadd, 1) := by decide +kernel
theorem dX12_laysLand_242 : decode cX12_laysLand 242 = .ok (.iaload, 1) := by decide +kernel
theorem dX12_laysLand_243 : decode cX12_laysLand 243 = .ok (.iadd, 1) := by decide +kernel
theorem dX12_laysLand_244 : decode cX12_laysLand 244 = .ok (.iaload, 1) := by decide +kernel
theorem dX12_laysLand_245 : decode cX12_laysLand 245 = .ok (.iastore, 1) := by decide +kernel
theorem dX12_laysLand_246 : decode cX12_laysLand 246 = .ok (.iinc 4 1, 3) := by decide +kernel
theorem dX12_laysLand_249 : decode cX12_laysLand 249 = .ok (.goto (-57), 3) := by decide +kernel
theorem dX12_laysLand_252 : decode cX12_laysLand 252 = .ok (.iinc 2 1, 3) := by decide +kernel
theorem dX12_laysLand_255 : decode cX12_laysLand 255 = .ok (.goto (-95), 3) := by decide +kernel
theorem dX12_laysLand_258 : decode cX12_laysLand 258 = .ok (.aload_n 0, 1) := by decide +kernel
theorem dX12_laysLand_259 : decode cX12_laysLand 259 = .ok (.getfield 65, 3) := by decide +kernel
theorem dX12_laysLand_262 : decode cX12_laysLand 262 = .ok (.iload_n 1, 1) := by decide +kernel
theorem dX12_laysLand_263 : decode cX12_laysLand 263 = .ok (.iconst 1, 1) := by decide +kernel
theorem dX12_laysLand_264 : decode cX12_laysLand 264 = .ok (.iastore, 1) := by decide +kernel
theorem dX12_laysLand_265 : decode cX12_laysLand 265 = .ok (.aload_n 0, 1) := by decide +kernel
theorem dX12_laysLand_266 : decode cX12_laysLand 266 = .ok (.iload_n 1, 1) := by decide +kernel
theorem dX12_laysLand_267 : decode cX12_laysLand 267 = .ok (.aload_n 0, 1) := by decide +kernel
theorem dX12_laysLand_268 : decode cX12_laysLand 268 = .ok (.getfield 65, 3) := by decide +kernel
theorem dX12_laysLand_271 : decode cX12_laysLand 271 = .ok (.iload_n 1, 1) := by decide +kernel
theorem dX12_laysLand_272 : decode cX12_laysLand 272 = .ok (.iaload, 1) := by decide +kernel
theorem dX12_laysLand_273 : decode cX12_laysLand 273 = .ok (.invokevirtual 285, 3) := by decide +kernel
theorem dX12_laysLand_276 : decode cX12_laysLand 276 = .ok (.ifCond .ne 16, 3) := by decide +kernel
theorem dX12_laysLand_279 : decode cX12_laysLand 279 = .ok (.aload_n 0, 1) := by decide +kernel
theorem dX12_laysLand_280 : decode cX12_laysLand 280 = .ok (.getfield 65, 3) := by decide +kernel
theorem dX12_laysLand_283 : decode cX12_laysLand 283 = .ok (.iload_n 1, 1) := by decide +kernel
theorem dX12_laysLand_284 : decode cX12_laysLand 284 = .ok (.dup2, 1) := by decide +kernel
theorem dX12_laysLand_285 : decode cX12_laysLand 285 = .ok (.iaload, 1) := by decide +kernel
theorem dX12_laysLand_286 : decode cX12_laysLand 286 = .ok (.iconst 1, 1) := by decide +kernel
theorem dX12_laysLand_287 : decode cX12_laysLand 287 = .ok (.iadd, 1) := by decide +kernel
theorem dX12_laysLand_288 : decode cX12_laysLand 288 = .ok (.iastore, 1) := by decide +kernel
theorem dX12_laysLand_289 : decode cX12_laysLand 289 = .ok (.goto (-24), 3) := by decide +kernel
theorem dX12_laysLand_292 : decode cX12_laysLand 292 = .ok (.return_, 1) := by decide +kernel
theorem hd_X12_isRound : yX12_isRound.cls = RX12 ∧ yX12_isRound.cls ≠ "java/lang/invoke/MethodHandle" ∧ yX12_isRound.cls ≠ "java/lang/invoke/VarHandle" ∧ (parseMethodDescriptor yX12_isRound.desc).map (fun d => d.parameters.length) = some 2 := by decide +kernel
theorem hd_X12_orderOf : yX12_orderOf.cls = RX12 ∧ yX12_orderOf.cls ≠ "java/lang/invoke/MethodHandle" ∧ yX12_orderOf.cls ≠ "java/lang/invoke/VarHandle" ∧ (parseMethodDescriptor yX12_orderOf.desc).map (fun d => d.parameters.length) = some 1 := by decide +kernel
set_option maxHeartbeats 4000000 in
set_option maxRecDepth 100000 in
theorem M124_X12_laysLand (l : Launch) (G : va_G) (cy : Nat → ClassId) (sz : Nat) (a_0 : Nat) (i_0 : Int32) (i_1 : Int32) (a_1 : Nat) (a_2 : Nat) (a_3 : Nat) (a_4 : Nat) (a_5 : Nat) (i_2 : Int32) (i_3 : Int32) (i_4 : Int32) (i_5 : Int32) (i_6 : Int32) (j_0 : Int64) (i_7 : Int32) (i_8 : Int32) (i_9 : Int32) (i_10 : Int32) (a_6 : Nat) (a_7 : Nat) (a_8 : Nat) (a_9 : Nat) (a_10 : Nat) (a_11 : Nat) (a_12 : Nat) (a_13 : Nat) (a_14 : Nat) (a_15 : Nat) (a_16 : Nat) (a_17 : Nat) (a_18 : Nat) (i_11 : Int32) (i_12 : Int32) (i_13 : Int32) (i_14 : Int32) (i_15 : Int32) (i_16 : Int32) (a_19 : Nat) (i_17 : Int32) (a_20 : Nat) (i_18 : Int32) (i_19 : Int32) (i_20 : Int32) (i_21 : Int32) (i_22 : Int32) (i_23 : Int32) (i_24 : Int32) (i_25 : Int32) (i_26 : Int32) (i_27 : Int32) (i_28 : Int32) (i_29 : Int32) (i_30 : Int32) (i_31 : Int32) (i_32 : Int32) (i_33 : Int32) (i_34 : Int32) (i_35 : Int32) (i_36 : Int32) (i_37 : Int32) (i_38 : Int32) (i_39 : Int32) (i_40 : Int32) (i_41 : Int32) (i_42 : Int32) (i_43 : Int32) (i_44 : Int32) (i_45 : Int32) (i_46 : Int32) (i_47 : Int32) (i_48 : Int32) (i_49 : Int32) (i_50 : Int32) (i_51 : Int32) (i_52 : Int32) (f_0 : Nat → Int32) (f_1 : Nat → Int32) (f_2 : Nat → Int32) (f_3 : Nat → Int32) (f_4 : Nat → Int32) (f_5 : Nat → Int32) (h0 : mm_rg i_0 0 2) (h1 : mm_rg i_18 0 601) (h2 : mm_rg i_19 0 601) (h3 : mm_rg i_20 0 601) (h4 : mm_rg i_21 0 601) (h5 : mm_rg i_22 0 601) (h6 : mm_rg i_23 0 10) (h7 : mm_rg i_24 0 99) (h8 : mm_rg i_25 0 9) (h9 : mm_rg i_26 0 3) (h10 : mm_rg i_27 0 6) (h11 : mm_rg i_28 0 30) (h12 : mm_rg i_29 0 10) (h13 : mm_rg i_30 0 99) (h14 : mm_rg i_31 0 9) (h15 : mm_rg i_32 0 3) (h16 : mm_rg i_33 0 6) (h17 : mm_rg i_34 0 30) (h18 : mm_rg i_35 0 10) (h19 : mm_rg i_36 0 99) (h20 : mm_rg i_37 0 9) (h21 : mm_rg i_38 0 3) (h22 : mm_rg i_39 0 6) (h23 : mm_rg i_40 0 30) (h24 : mm_rg i_41 0 10) (h25 : mm_rg i_42 0 99) (h26 : mm_rg i_43 0 9) (h27 : mm_rg i_44 0 3) (h28 : mm_rg i_45 0 6) (h29 : mm_rg i_46 0 30) (h30 : mm_rg i_47 0 10) (h31 : mm_rg i_48 0 99) (h32 : mm_rg i_49 0 9) (h33 : mm_rg i_50 0 3) (h34 : mm_rg i_51 0 6) (h35 : mm_rg i_52 0 30) (h36 : mm_ar f_0 0 7) (h37 : mm_ar f_1 0 9) (h38 : mm_ar f_2 (-1) 99) (h39 : mm_ar f_3 0 9) (h40 : mm_ar f_4 0 210) (h41 : mm_ar f_5 0 210) (h42 : mm_rls f_0 f_1 0 i_25 i_26) (h43 : mm_acs f_2 0 i_25 i_26 i_28) (h44 : mm_tl i_18 i_26 i_27) (h45 : mm_rls f_0 f_1 1 i_31 i_32) (h46 : mm_acs f_2 1 i_31 i_32 i_34) (h47 : mm_tl i_19 i_32 i_33) (h48 : mm_rls f_0 f_1 2 i_37 i_38) (h49 : mm_acs f_2 2 i_37 i_38 i_40) (h50 : mm_tl i_20 i_38 i_39) (h51 : mm_rls f_0 f_1 3 i_43 i_44) (h52 : mm_acs f_2 3 i_43 i_44 i_46) (h53 : mm_tl i_21 i_44 i_45) (h54 : (i_0 : Int32).toInt < (i_26 : Int32).toInt)  : mm_CV l yX12_laysLand (mm_ws yX12_laysLand cX12_laysLand 6 (none)) ({ frames := 12, cells := 0, slots := 0, locals := 254 } : Room) G cy sz [(a_0, .inr (12, [.int i_1, .ref a_1, .ref a_2, .ref a_3, .ref a_4, .ref a_5, .int i_2, .int i_3, .int i_4, .int i_5, .int i_6, .long j_0, .int i_7, .int i_8, .int i_9, .int i_10, .ref a_6, .ref a_7, .ref a_8, .ref a_9, .ref a_10, .ref a_11, .ref a_12, .ref a_13, .ref a_14, .ref a_15, .ref a_16, .ref a_17, .ref a_18, .int i_11, .int i_12, .int i_13, .int i_14, .int i_15, .int i_16, .ref a_19, .int i_17, .ref a_20])), (a_6, .inl (cy 1, 5, .inl (mm_g [i_18, i_19, i_20, i_21, i_22]))), (a_7, .inl (cy 1, 30, .inl (mm_g [i_23, i_24, i_25, i_26, i_27, i_28, i_29, i_30, i_31, i_32, i_33, i_34, i_35, i_36, i_37, i_38, i_39, i_40, i_41, i_42, i_43, i_44, i_45, i_46, i_47, i_48, i_49, i_50, i_51, i_52]))), (a_9, .inl (cy 1, 15, .inl f_0)), (a_10, .inl (cy 1, 1050, .inl f_1)), (a_13, .inl (cy 1, 450, .inl f_2)), (a_15, .inl (cy 1, 7200, .inl f_3)), (a_16, .inl (cy 1, 3, .inl f_4)), (a_17, .inl (cy 1, 3, .inl f_5))] [.ref a_0, .int i_0] (fun u : (Nat → Int32) × (Nat → Int32) × (Nat → Int32) => [(a_0, .inr (12, [.int i_1, .ref a_1, .ref a_2, .ref a_3, .ref a_4, .ref a_5, .int i_2, .int i_3, .int i_4, .int i_5, .int i_6, .long j_0, .int i_7, .int i_8, .int i_9, .int i_10, .ref a_6, .ref a_7, .ref a_8, .ref a_9, .ref a_10, .ref a_11, .ref a_12, .ref a_13, .ref a_14, .ref a_15, .ref a_16, .ref a_17, .ref a_18, .int i_11, .int i_12, .int i_13, .int i_14, .int i_15, .int i_16, .ref a_19, .int i_17, .ref a_20])), (a_6, .inl (cy 1, 5, .inl (mm_g [i_18, i_19, i_20, i_21, i_22]))), (a_7, .inl (cy 1, 30, .inl (mm_g [i_23, i_24, i_25, i_26, i_27, i_28, i_29, i_30, i_31, i_32, i_33, i_34, i_35, i_36, i_37, i_38, i_39, i_40, i_41, i_42, i_43, i_44, i_45, i_46, i_47, i_48, i_49, i_50, i_51, i_52]))), (a_9, .inl (cy 1, 15, .inl f_0)), (a_10, .inl (cy 1, 1050, .inl f_1)), (a_13, .inl (cy 1, 450, .inl f_2)), (a_15, .inl (cy 1, 7200, .inl u.1)), (a_16, .inl (cy 1, 3, .inl u.2.1)), (a_17, .inl (cy 1, 3, .inl u.2.2))]) (fun u : (Nat → Int32) × (Nat → Int32) × (Nat → Int32) => mm_ar u.1 0 9 ∧ mm_ar u.2.1 0 210 ∧ mm_ar u.2.2 0 210 ∧ mm_ll f_3 f_4 f_5 u.1 u.2.1 u.2.2 i_0 i_25) 0 0 := by
  refine mm_begin (lv := [(0, .ref a_0), (1, .int i_0)]) (by decide) (Nat.le_of_ble_eq_true rfl) rfl ?_
  intro p e s m below meth c A ls R args Q H locs hRe hQ hAe hx hb hr hlocks hml hown hnm hts hsz hA hS hP hK hD hZ hl
  have hRf : R.frames = 12 := by rw [hRe]
  have hRl : R.locals = 254 := by rw [hRe]
  have hRc : R.cells = 0 := by rw [hRe]
  have hRs : R.slots = 0 := by rw [hRe]
  have q1 := mm_ltR (lo := 1) h54 h0 h9 (by decide)
  have q2 : mm_rg i_18 1 601 := mm_tl_3 h44 q1 h1 (by decide)
  refine lv_iconst (v := 0) hx hb dX12_laysLand_0 (by decide) ?_
  refine lv_istore_n (lv' := [(2, .int 0), (0, .ref a_0), (1, .int i_0)]) hx hb dX12_laysLand_1 rfl hl (by decide) rfl ?_
  clear hl
  clear ls
  intro ls hl
  have L2_143 : ∀ (n : Nat) (x2_2_141 : Int32) (z2_6_142 : Nat → Int32), mm_rg x2_2_141 0 10 → mm_ar z2_6_142 0 9 → mm_t0 f_3 z2_6_142 i_0 x2_2_141 → (10 - x2_2_141.toInt).toNat < n → ∀ (H : Heap) (locs : List Loc), va_P G vwCl [(a_0, .inr (12, [.int i_1, .ref a_1, .ref a_2, .ref a_3, .ref a_4, .ref a_5, .int i_2, .int i_3, .int i_4, .int i_5, .int i_6, .long j_0, .int i_7, .int i_8, .int i_9, .int i_10, .ref a_6, .ref a_7, .ref a_8, .ref a_9, .ref a_10, .ref a_11, .ref a_12, .ref a_13, .ref a_14, .ref a_15, .ref a_16, .ref a_17, .ref a_18, .int i_11, .int i_12, .int i_13, .int i_14, .int i_15, .int i_16, .ref a_19, .int i_17, .ref a_20])), (a_6, .inl (cy 1, 5, .inl (mm_g [i_18, i_19, i_20, i_21, i_22]))), (a_7, .inl (cy 1, 30, .inl (mm_g [i_23, i_24, i_25, i_26, i_27, i_28, i_29, i_30, i_31, i_32, i_33, i_34, i_35, i_36, i_37, i_38, i_39, i_40, i_41, i_42, i_43, i_44, i_45, i_46, i_47, i_48, i_49, i_50, i_51, i_52]))), (a_9, .inl (cy 1, 15, .inl f_0)), (a_10, .inl (cy 1, 1050, .inl f_1)), (a_13, .inl (cy 1, 450, .inl f_2)), (a_15, .inl (cy 1, 7200, .inl z2_6_142)), (a_16, .inl (cy 1, 3, .inl f_4)), (a_17, .inl (cy 1, 3, .inl f_5))] H → va_D A [(a_0, .inr (12, [.int i_1, .ref a_1, .ref a_2, .ref a_3, .ref a_4, .ref a_5, .int i_2, .int i_3, .int i_4, .int i_5, .int i_6, .long j_0, .int i_7, .int i_8, .int i_9, .int i_10, .ref a_6, .ref a_7, .ref a_8, .ref a_9, .ref a_10, .ref a_11, .ref a_12, .ref a_13, .ref a_14, .ref a_15, .ref a_16, .ref a_17, .ref a_18, .int i_11, .int i_12, .int i_13, .int i_14, .int i_15, .int i_16, .ref a_19, .int i_17, .ref a_20])), (a_6, .inl (cy 1, 5, .inl (mm_g [i_18, i_19, i_20, i_21, i_22]))), (a_7, .inl (cy 1, 30, .inl (mm_g [i_23, i_24, i_25, i_26, i_27, i_28, i_29, i_30, i_31, i_32, i_33, i_34, i_35, i_36, i_37, i_38, i_39, i_40, i_41, i_42, i_43, i_44, i_45, i_46, i_47, i_48, i_49, i_50, i_51, i_52]))), (a_9, .inl (cy 1, 15, .inl f_0)), (a_10, .inl (cy 1, 1050, .inl f_1)), (a_13, .inl (cy 1, 450, .inl f_2)), (a_15, .inl (cy 1, 7200, .inl z2_6_142)), (a_16, .inl (cy 1, 3, .inl f_4)), (a_17, .inl (cy 1, 3, .inl f_5))] → va_S A s.heap H locs → ∀ (ls : Array Slot), lv_has ls 6 [(2, .int x2_2_141), (0, .ref a_0), (1, .int i_0)] → W p l e R s m args below meth c H locs 0 0 Q (F0 m 2 ls []) := by
    intro n
    induction n with
    | zero => intro x2_2_141 z2_6_142 rx2_2_141 rz2_6_142 w143 hm; exact absurd hm (Nat.not_lt_zero _)
    | succ n ih2 =>
      intro x2_2_141 z2_6_142 rx2_2_141 rz2_6_142 w143 hm2 H locs hP hD hS ls hl
      refine lv_iload_n hx hb dX12_laysLand_2 rfl (lv_at hl 0 rfl) ?_
      refine lv_aload_n hx hb dX12_laysLand_3 rfl (lv_at hl 1 rfl) ?_
      refine mm_finir (va_runV (As := []) (rest := [.int x2_2_141]) ⟨hx, hb, hml, hown, hts⟩ (M100_X12_words l G cy H.size a_0 i_1 a_1 a_2 a_3 a_4 a_5 i_2 i_3 i_4 i_5 i_6 j_0 i_7 i_8 i_9 i_10 a_6 a_7 a_8 a_9 a_10 a_11 a_12 a_13 a_14 a_15 a_16 a_17 a_18 i_11 i_12 i_13 i_14 i_15 i_16 a_19 i_17 a_20 i_18 i_19 i_20 i_21 i_22 i_23 i_24 i_25 i_26 i_27 i_28 i_29 i_30 i_31 i_32 i_33 i_34 i_35 i_36 i_37 i_38 i_39 i_40 i_41 i_42 i_43 i_44 i_45 i_46 i_47 i_48 i_49 i_50 i_51 i_52 q2 h2 h3 h4 h5 h6 h7 h8 (mm_wk q1 (by decide)) h10 h11 h12 h13 h14 h15 h16 h17 h18 h19 h20 h21 h22 h23 h24 h25 h26 h27 h28 h29 h30 h31 h32 h33 h34 h35 h44 h47 h50 h53) (cwV 0 hts (mm_gV mm_w649 mm_w650 mm_w651 mm_w5 mm_w652) rfl rfl rfl hd_X12_words ⟨by rw [hRf]; exact Nat.le_of_ble_eq_true rfl, by rw [hRl]; exact Nat.le_of_ble_eq_true rfl⟩) (mm_preV hK hZ hS hA hP hD [0, 1, 2] rfl rfl 0 rfl rfl rfl) rfl rfl hl.1 rfl (lv_room (Nat.le_of_ble_eq_true rfl)) dX12_laysLand_4 ⟨by rw [hRc]; exact Nat.le_of_ble_eq_true rfl, by rw [hRs]; exact Nat.le_of_ble_eq_true rfl⟩) hP hD hS hA [0, 1, 2] rfl (fun _ => rfl) ?_
      clear hP hD hS
      clear H locs
      intro v145 _u H locs hw hP hD hS
      obtain ⟨w146, w147⟩ := hw
      have t148 : (v145 : Int32).toInt = (i_25 : Int32).toInt + 1 := w147
      refine lv_icmp_ge (tgt := 29) hx hb dX12_laysLand_7 (by decide) (fun c149 => ?_) (fun c149 => ?_)
      · have q150 := mm_leR (mm_le c149) w146 rx2_2_141
        refine lv_iconst (v := 0) hx hb dX12_laysLand_29 (by decide) ?_
        refine lv_istore_n (lv' := [(2, .int 0), (0, .ref a_0), (1, .int i_0)]) hx hb dX12_laysLand_30 rfl hl (by decide) rfl ?_
        clear hl
        clear ls
        intro ls hl
        have L31_538 : ∀ (n : Nat) (x31_2_536 : Int32) (z31_6_537 : Nat → Int32), mm_rg x31_2_536 0 30 → mm_ar z31_6_537 0 9 → mm_tp f_3 z31_6_537 i_0 i_25 → (30 - x31_2_536.toInt).toNat < n → ∀ (H : Heap) (locs : List Loc), va_P G vwCl [(a_0, .inr (12, [.int i_1, .ref a_1, .ref a_2, .ref a_3, .ref a_4, .ref a_5, .int i_2, .int i_3, .int i_4, .int i_5, .int i_6, .long j_0, .int i_7, .int i_8, .int i_9, .int i_10, .ref a_6, .ref a_7, .ref a_8, .ref a_9, .ref a_10, .ref a_11, .ref a_12, .ref a_13, .ref a_14, .ref a_15, .ref a_16, .ref a_17, .ref a_18, .int i_11, .int i_12, .int i_13, .int i_14, .int i_15, .int i_16, .ref a_19, .int i_17, .ref a_20])), (a_6, .inl (cy 1, 5, .inl (mm_g [i_18, i_19, i_20, i_21, i_22]))), (a_7, .inl (cy 1, 30, .inl (mm_g [i_23, i_24, i_25, i_26, i_27, i_28, i_29, i_30, i_31, i_32, i_33, i_34, i_35, i_36, i_37, i_38, i_39, i_40, i_41, i_42, i_43, i_44, i_45, i_46, i_47, i_48, i_49, i_50, i_51, i_52]))), (a_9, .inl (cy 1, 15, .inl f_0)), (a_10, .inl (cy 1, 1050, .inl f_1)), (a_13, .inl (cy 1, 450, .inl f_2)), (a_15, .inl (cy 1, 7200, .inl z31_6_537)), (a_16, .inl (cy 1, 3, .inl f_4)), (a_17, .inl (cy 1, 3, .inl f_5))] H → va_D A [(a_0, .inr (12, [.int i_1, .ref a_1, .ref a_2, .ref a_3, .ref a_4, .ref a_5, .int i_2, .int i_3, .int i_4, .int i_5, .int i_6, .long j_0, .int i_7, .int i_8, .int i_9, .int i_10, .ref a_6, .ref a_7, .ref a_8, .ref a_9, .ref a_10, .ref a_11, .ref a_12, .ref a_13, .ref a_14, .ref a_15, .ref a_16, .ref a_17, .ref a_18, .int i_11, .int i_12, .int i_13, .int i_14, .int i_15, .int i_16, .ref a_19, .int i_17, .ref a_20])), (a_6, .inl (cy 1, 5, .inl (mm_g [i_18, i_19, i_20, i_21, i_22]))), (a_7, .inl (cy 1, 30, .inl (mm_g [i_23, i_24, i_25, i_26, i_27, i_28, i_29, i_30, i_31, i_32, i_33, i_34, i_35, i_36, i_37, i_38, i_39, i_40, i_41, i_42, i_43, i_44, i_45, i_46, i_47, i_48, i_49, i_50, i_51, i_52]))), (a_9, .inl (cy 1, 15, .inl f_0)), (a_10, .inl (cy 1, 1050, .inl f_1)), (a_13, .inl (cy 1, 450, .inl f_2)), (a_15, .inl (cy 1, 7200, .inl z31_6_537)), (a_16, .inl (cy 1, 3, .inl f_4)), (a_17, .inl (cy 1, 3, .inl f_5))] → va_S A s.heap H locs → ∀ (ls : Array Slot), lv_has ls 6 [(2, .int x31_2_536), (0, .ref a_0), (1, .int i_0)] → W p l e R s m args below meth c H locs 0 0 Q (F0 m 31 ls []) := by
          intro n
          induction n with
          | zero => intro x31_2_536 z31_6_537 rx31_2_536 rz31_6_537 w538 hm; exact absurd hm (Nat.not_lt_zero _)
          | succ n ih31 =>
            intro x31_2_536 z31_6_537 rx31_2_536 rz31_6_537 w538 hm31 H locs hP hD hS ls hl
            refine lv_iload_n hx hb dX12_laysLand_31 rfl (lv_at hl 0 rfl) ?_
            refine lv_aload_n hx hb dX12_laysLand_32 rfl (lv_at hl 1 rfl) ?_
            refine va_get (D := G) (ci := 12) (v := .ref a_7) (C := RX12) (T := TX12) (N := 38) hx hb hts (mm_i inlX12) hown hK.1 hP 0 rfl rfl 17 (by decide) (mm_h hts mm_w149) (fun _ h9 => h9) rfl dX12_laysLand_33 ?_
            refine lv_iconst (v := 5) hx hb dX12_laysLand_36 (by decide) ?_
            refine va_iald hx hb hK.1 hP 2 1 rfl rfl (mm_in mm_k5 (by decide)) dX12_laysLand_37 ?_
            rw [show (mm_g [i_23, i_24, i_25, i_26, i_27, i_28, i_29, i_30, i_31, i_32, i_33, i_34, i_35, i_36, i_37, i_38, i_39, i_40, i_41, i_42, i_43, i_44, i_45, i_46, i_47, i_48, i_49, i_50, i_51, i_52]) (5 : Int32).toNatClampNeg = i_28 from mm_ge 5 (by decide) rfl]
            refine lv_icmp_ge (tgt := 127) hx hb dX12_laysLand_38 (by decide) (fun c540 => ?_) (fun c540 => ?_)
            · refine lv_aload_n hx hb dX12_laysLand_127 rfl (lv_at hl 1 rfl) ?_
              refine va_get (D := G) (ci := 12) (v := .ref a_16) (C := RX12) (T := TX12) (N := 38) hx hb hts (mm_i inlX12) hown hK.1 hP 0 rfl rfl 26 (by decide) (mm_h hts mm_w158) (fun _ h9 => h9) rfl dX12_laysLand_128 ?_
              refine lv_iload_n hx hb dX12_laysLand_131 rfl (lv_at hl 2 rfl) ?_
              refine lv_aload_n hx hb dX12_laysLand_132 rfl (lv_at hl 1 rfl) ?_
              refine va_get (D := G) (ci := 12) (v := .ref a_9) (C := RX12) (T := TX12) (N := 38) hx hb hts (mm_i inlX12) hown hK.1 hP 0 rfl rfl 19 (by decide) (mm_h hts mm_w151) (fun _ h9 => h9) rfl dX12_laysLand_133 ?_
              refine lv_iload_n hx hb dX12_laysLand_136 rfl (lv_at hl 2 rfl) ?_
              refine va_iald hx hb hK.1 hP 3 1 rfl rfl (mm_in h0 (by decide)) dX12_laysLand_137 ?_
              refine lv_topi (fun v541 ev541 => ?_)
              have rv541 : mm_rg v541 0 7 := mm_eqv ev541 (h36 _)
              refine lv_if_ne (tgt := 145) hx hb dX12_laysLand_138 (by decide) (fun c542 => ?_) (fun c542 => ?_)
              · have q543 := mm_neL (lo := 1) (mm_ne c542) rv541 mm_k0 (by decide) (by decide)
                refine lv_aload_n hx hb dX12_laysLand_145 rfl (lv_at hl 1 rfl) ?_
                refine va_get (D := G) (ci := 12) (v := .ref a_9) (C := RX12) (T := TX12) (N := 38) hx hb hts (mm_i inlX12) hown hK.1 hP 0 rfl rfl 19 (by decide) (mm_h hts mm_w151) (fun _ h9 => h9) rfl dX12_laysLand_146 ?_
                refine lv_iload_n hx hb dX12_laysLand_149 rfl (lv_at hl 2 rfl) ?_
                refine va_iald hx hb hK.1 hP 3 1 rfl rfl (mm_in h0 (by decide)) dX12_laysLand_150 ?_
                refine lv_topi (fun v544 ev544 => ?_)
                have rv544 : mm_rg v544 0 7 := mm_eqv ev544 (h36 _)
                obtain rfl : v541 = v544 := ev541.trans ev544.symm
                refine lv_aload_n hx hb dX12_laysLand_151 rfl (lv_at hl 1 rfl) ?_
                refine lv_iload_n hx hb dX12_laysLand_152 rfl (lv_at hl 2 rfl) ?_
                refine mm_finir (va_runV (As := [.int i_0]) (rest := [.int v541, .int i_0, .ref a_16]) ⟨hx, hb, hml, hown, hts⟩ (M119_X12_orderOf l G cy H.size a_0 i_0 i_1 a_1 a_2 a_3 a_4 a_5 i_2 i_3 i_4 i_5 i_6 j_0 i_7 i_8 i_9 i_10 a_6 a_7 a_8 a_9 a_10 a_11 a_12 a_13 a_14 a_15 a_16 a_17 a_18 i_11 i_12 i_13 i_14 i_15 i_16 a_19 i_17 a_20 i_18 i_19 i_20 i_21 i_22 i_23 i_24 i_25 i_26 i_27 i_28 i_29 i_30 i_31 i_32 i_33 i_34 i_35 i_36 i_37 i_38 i_39 i_40 i_41 i_42 i_43 i_44 i_45 i_46 i_47 i_48 i_49 i_50 i_51 i_52 f_0 f_1 h0 (mm_wk q2 (by decide)) h2 h3 h4 h5 h6 h7 h8 (mm_wk q1 (by decide)) h10 h11 h12 h13 h14 h15 h16 h17 h18 h19 h20 h21 h22 h23 h24 h25 h26 h27 h28 h29 h30 h31 h32 h33 h34 h35 h36 h37 h42 h44 h45 h47 h48 h50 h51 h53 h54) (cwV 1 hts (mm_gV mm_w694 mm_w695 mm_w696 mm_w5 mm_w697) rfl rfl rfl hd_X12_orderOf ⟨by rw [hRf]; exact Nat.le_of_ble_eq_true rfl, by rw [hRl]; exact Nat.le_of_ble_eq_true rfl⟩) (mm_preV hK hZ hS hA hP hD [0, 1, 2, 3, 4] rfl rfl 0 rfl rfl rfl) rfl rfl hl.1 rfl (lv_room (Nat.le_of_ble_eq_true rfl)) dX12_laysLand_153 ⟨by rw [hRc]; exact Nat.le_of_ble_eq_true rfl, by rw [hRs]; exact Nat.le_of_ble_eq_true rfl⟩) hP hD hS hA [0, 1, 2, 3, 4] rfl (fun _ => rfl) ?_
                clear hP hD hS
                clear H locs
                intro v545 _u H locs hw hP hD hS
                have w546 := hw
                refine lv_imul hx hb dX12_laysLand_156 ?_
                refine lv_topi (fun v547 ev547 => ?_)
                have rv547 : mm_rg v547 1 210 := mm_mul ev547 q543 w546 (by decide) (by decide)
                have tv547 := mm_mulE ev547 (mm_wk (l2 := 0) (h2 := 7) q543 (by decide)) (mm_wk (l2 := 0) (h2 := 30) w546 (by decide)) (by decide)
                refine va_iast hx hb hK.1 hP hD hS 7 1 rfl rfl (mm_in h0 (by decide)) dX12_laysLand_157 ?_
                clear hP hD hS
                clear H locs
                obtain ⟨g548, eg548⟩ : ∃ z : Nat → Int32, z = upd f_4 i_0.toNatClampNeg v547 := ⟨_, rfl⟩
                rw [← eg548]
                intro H locs (hP : va_P G vwCl [(a_0, .inr (12, [.int i_1, .ref a_1, .ref a_2, .ref a_3, .ref a_4, .ref a_5, .int i_2, .int i_3, .int i_4, .int i_5, .int i_6, .long j_0, .int i_7, .int i_8, .int i_9, .int i_10, .ref a_6, .ref a_7, .ref a_8, .ref a_9, .ref a_10, .ref a_11, .ref a_12, .ref a_13, .ref a_14, .ref a_15, .ref a_16, .ref a_17, .ref a_18, .int i_11, .int i_12, .int i_13, .int i_14, .int i_15, .int i_16, .ref a_19, .int i_17, .ref a_20])), (a_6, .inl (cy 1, 5, .inl (mm_g [i_18, i_19, i_20, i_21, i_22]))), (a_7, .inl (cy 1, 30, .inl (mm_g [i_23, i_24, i_25, i_26, i_27, i_28, i_29, i_30, i_31, i_32, i_33, i_34, i_35, i_36, i_37, i_38, i_39, i_40, i_41, i_42, i_43, i_44, i_45, i_46, i_47, i_48, i_49, i_50, i_51, i_52]))), (a_9, .inl (cy 1, 15, .inl f_0)), (a_10, .inl (cy 1, 1050, .inl f_1)), (a_13, .inl (cy 1, 450, .inl f_2)), (a_15, .inl (cy 1, 7200, .inl z31_6_537)), (a_16, .inl (cy 1, 3, .inl g548)), (a_17, .inl (cy 1, 3, .inl f_5))] H) (hD : va_D A [(a_0, .inr (12, [.int i_1, .ref a_1, .ref a_2, .ref a_3, .ref a_4, .ref a_5, .int i_2, .int i_3, .int i_4, .int i_5, .int i_6, .long j_0, .int i_7, .int i_8, .int i_9, .int i_10, .ref a_6, .ref a_7, .ref a_8, .ref a_9, .ref a_10, .ref a_11, .ref a_12, .ref a_13, .ref a_14, .ref a_15, .ref a_16, .ref a_17, .ref a_18, .int i_11, .int i_12, .int i_13, .int i_14, .int i_15, .int i_16, .ref a_19, .int i_17, .ref a_20])), (a_6, .inl (cy 1, 5, .inl (mm_g [i_18, i_19, i_20, i_21, i_22]))), (a_7, .inl (cy 1, 30, .inl (mm_g [i_23, i_24, i_25, i_26, i_27, i_28, i_29, i_30, i_31, i_32, i_33, i_34, i_35, i_36, i_37, i_38, i_39, i_40, i_41, i_42, i_43, i_44, i_45, i_46, i_47, i_48, i_49, i_50, i_51, i_52]))), (a_9, .inl (cy 1, 15, .inl f_0)), (a_10, .inl (cy 1, 1050, .inl f_1)), (a_13, .inl (cy 1, 450, .inl f_2)), (a_15, .inl (cy 1, 7200, .inl z31_6_537)), (a_16, .inl (cy 1, 3, .inl g548)), (a_17, .inl (cy 1, 3, .inl f_5))]) hS
                have rg548 : mm_ar g548 0 210 := by rw [eg548]; exact mm_ar_upd (mm_ar_wk h40 (by decide)) (mm_wk rv547 (by decide)) _
                refine lv_iconst (v := 0) hx hb dX12_laysLand_158 (by decide) ?_
                refine lv_istore_n (lv' := [(2, .int 0), (0, .ref a_0), (1, .int i_0)]) hx hb dX12_laysLand_159 rfl hl (by decide) rfl ?_
                clear hl
                clear ls
                intro ls hl
                have L160_4667 : ∀ (n : Nat) (x160_2_4665 : Int32) (z160_6_4666 : Nat → Int32), mm_rg x160_2_4665 0 209 → mm_ar z160_6_4666 0 9 → mm_td f_3 z160_6_4666 i_0 x160_2_4665 i_25 → (209 - x160_2_4665.toInt).toNat < n → ∀ (H : Heap) (locs : List Loc), va_P G vwCl [(a_0, .inr (12, [.int i_1, .ref a_1, .ref a_2, .ref a_3, .ref a_4, .ref a_5, .int i_2, .int i_3, .int i_4, .int i_5, .int i_6, .long j_0, .int i_7, .int i_8, .int i_9, .int i_10, .ref a_6, .ref a_7, .ref a_8, .ref a_9, .ref a_10, .ref a_11, .ref a_12, .ref a_13, .ref a_14, .ref a_15, .ref a_16, .ref a_17, .ref a_18, .int i_11, .int i_12, .int i_13, .int i_14, .int i_15, .int i_16, .ref a_19, .int i_17, .ref a_20])), (a_6, .inl (cy 1, 5, .inl (mm_g [i_18, i_19, i_20, i_21, i_22]))), (a_7, .inl (cy 1, 30, .inl (mm_g [i_23, i_24, i_25, i_26, i_27, i_28, i_29, i_30, i_31, i_32, i_33, i_34, i_35, i_36, i_37, i_38, i_39, i_40, i_41, i_42, i_43, i_44, i_45, i_46, i_47, i_48, i_49, i_50, i_51, i_52]))), (a_9, .inl (cy 1, 15, .inl f_0)), (a_10, .inl (cy 1, 1050, .inl f_1)), (a_13, .inl (cy 1, 450, .inl f_2)), (a_15, .inl (cy 1, 7200, .inl z160_6_4666)), (a_16, .inl (cy 1, 3, .inl g548)), (a_17, .inl (cy 1, 3, .inl f_5))] H → va_D A [(a_0, .inr (12, [.int i_1, .ref a_1, .ref a_2, .ref a_3, .ref a_4, .ref a_5, .int i_2, .int i_3, .int i_4, .int i_5, .int i_6, .long j_0, .int i_7, .int i_8, .int i_9, .int i_10, .ref a_6, .ref a_7, .ref a_8, .ref a_9, .ref a_10, .ref a_11, .ref a_12, .ref a_13, .ref a_14, .ref a_15, .ref a_16, .ref a_17, .ref a_18, .int i_11, .int i_12, .int i_13, .int i_14, .int i_15, .int i_16, .ref a_19, .int i_17, .ref a_20])), (a_6, .inl (cy 1, 5, .inl (mm_g [i_18, i_19, i_20, i_21, i_22]))), (a_7, .inl (cy 1, 30, .inl (mm_g [i_23, i_24, i_25, i_26, i_27, i_28, i_29, i_30, i_31, i_32, i_33, i_34, i_35, i_36, i_37, i_38, i_39, i_40, i_41, i_42, i_43, i_44, i_45, i_46, i_47, i_48, i_49, i_50, i_51, i_52]))), (a_9, .inl (cy 1, 15, .inl f_0)), (a_10, .inl (cy 1, 1050, .inl f_1)), (a_13, .inl (cy 1, 450, .inl f_2)), (a_15, .inl (cy 1, 7200, .inl z160_6_4666)), (a_16, .inl (cy 1, 3, .inl g548)), (a_17, .inl (cy 1, 3, .inl f_5))] → va_S A s.heap H locs → ∀ (ls : Array Slot), lv_has ls 6 [(2, .int x160_2_4665), (0, .ref a_0), (1, .int i_0)] → W p l e R s m args below meth c H locs 0 0 Q (F0 m 160 ls []) := by
                  intro n
                  induction n with
                  | zero => intro x160_2_4665 z160_6_4666 rx160_2_4665 rz160_6_4666 w4667 hm; exact absurd hm (Nat.not_lt_zero _)
                  | succ n ih160 =>
                    intro x160_2_4665 z160_6_4666 rx160_2_4665 rz160_6_4666 w4667 hm160 H locs hP hD hS ls hl
                    refine lv_iload_n hx hb dX12_laysLand_160 rfl (lv_at hl 0 rfl) ?_
                    refine lv_iconst (v := 1) hx hb dX12_laysLand_161 (by decide) ?_
                    refine lv_iadd hx hb dX12_laysLand_162 ?_
                    refine lv_topi (fun v4669 ev4669 => ?_)
                    have rv4669 : mm_rg v4669 1 210 := mm_add ev4669 rx160_2_4665 mm_k1 (by decide) (by decide)
                    have tv4669 := mm_addEc ev4669 rx160_2_4665 mm_k1 (by decide) (k := 1) (by decide)
                    refine lv_aload_n hx hb dX12_laysLand_163 rfl (lv_at hl 1 rfl) ?_
                    refine va_get (D := G) (ci := 12) (v := .ref a_16) (C := RX12) (T := TX12) (N := 38) hx hb hts (mm_i inlX12) hown hK.1 hP 0 rfl rfl 26 (by decide) (mm_h hts mm_w158) (fun _ h9 => h9) rfl dX12_laysLand_164 ?_
                    refine lv_iload_n hx hb dX12_laysLand_167 rfl (lv_at hl 2 rfl) ?_
                    refine va_iald hx hb hK.1 hP 7 1 rfl rfl (mm_in h0 (by decide)) dX12_laysLand_168 ?_
                    refine lv_topi (fun v4670 ev4670 => ?_)
                    obtain rfl : v547 = v4670 := (ev4670.trans (by rw [eg548]; exact pk_us)).symm
                    refine lv_icmp_ge (tgt := 258) hx hb dX12_laysLand_169 (by decide) (fun c4671 => ?_) (fun c4671 => ?_)
                    · refine lv_aload_n hx hb dX12_laysLand_258 rfl (lv_at hl 1 rfl) ?_
                      refine va_get (D := G) (ci := 12) (v := .ref a_17) (C := RX12) (T := TX12) (N := 38) hx hb hts (mm_i inlX12) hown hK.1 hP 0 rfl rfl 27 (by decide) (mm_h hts mm_w159) (fun _ h9 => h9) rfl dX12_laysLand_259 ?_
                      refine lv_iload_n hx hb dX12_laysLand_262 rfl (lv_at hl 2 rfl) ?_
                      refine lv_iconst (v := 1) hx hb dX12_laysLand_263 (by decide) ?_
                      refine va_iast hx hb hK.1 hP hD hS 8 1 rfl rfl (mm_in h0 (by decide)) dX12_laysLand_264 ?_
                      clear hP hD hS
                      clear H locs
                      obtain ⟨g4672, eg4672⟩ : ∃ z : Nat → Int32, z = upd f_5 i_0.toNatClampNeg 1 := ⟨_, rfl⟩
                      rw [← eg4672]
                      intro H locs (hP : va_P G vwCl [(a_0, .inr (12, [.int i_1, .ref a_1, .ref a_2, .ref a_3, .ref a_4, .ref a_5, .int i_2, .int i_3, .int i_4, .int i_5, .int i_6, .long j_0, .int i_7, .int i_8, .int i_9, .int i_10, .ref a_6, .ref a_7, .ref a_8, .ref a_9, .ref a_10, .ref a_11, .ref a_12, .ref a_13, .ref a_14, .ref a_15, .ref a_16, .ref a_17, .ref a_18, .int i_11, .int i_12, .int i_13, .int i_14, .int i_15, .int i_16, .ref a_19, .int i_17, .ref a_20])), (a_6, .inl (cy 1, 5, .inl (mm_g [i_18, i_19, i_20, i_21, i_22]))), (a_7, .inl (cy 1, 30, .inl (mm_g [i_23, i_24, i_25, i_26, i_27, i_28, i_29, i_30, i_31, i_32, i_33, i_34, i_35, i_36, i_37, i_38, i_39, i_40, i_41, i_42, i_43, i_44, i_45, i_46, i_47, i_48, i_49, i_50, i_51, i_52]))), (a_9, .inl (cy 1, 15, .inl f_0)), (a_10, .inl (cy 1, 1050, .inl f_1)), (a_13, .inl (cy 1, 450, .inl f_2)), (a_15, .inl (cy 1, 7200, .inl z160_6_4666)), (a_16, .inl (cy 1, 3, .inl g548)), (a_17, .inl (cy 1, 3, .inl g4672))] H) (hD : va_D A [(a_0, .inr (12, [.int i_1, .ref a_1, .ref a_2, .ref a_3, .ref a_4, .ref a_5, .int i_2, .int i_3, .int i_4, .int i_5, .int i_6, .long j_0, .int i_7, .int i_8, .int i_9, .int i_10, .ref a_6, .ref a_7, .ref a_8, .ref a_9, .ref a_10, .ref a_11, .ref a_12, .ref a_13, .ref a_14, .ref a_15, .ref a_16, .ref a_17, .ref a_18, .int i_11, .int i_12, .int i_13, .int i_14, .int i_15, .int i_16, .ref a_19, .int i_17, .ref a_20])), (a_6, .inl (cy 1, 5, .inl (mm_g [i_18, i_19, i_20, i_21, i_22]))), (a_7, .inl (cy 1, 30, .inl (mm_g [i_23, i_24, i_25, i_26, i_27, i_28, i_29, i_30, i_31, i_32, i_33, i_34, i_35, i_36, i_37, i_38, i_39, i_40, i_41, i_42, i_43, i_44, i_45, i_46, i_47, i_48, i_49, i_50, i_51, i_52]))), (a_9, .inl (cy 1, 15, .inl f_0)), (a_10, .inl (cy 1, 1050, .inl f_1)), (a_13, .inl (cy 1, 450, .inl f_2)), (a_15, .inl (cy 1, 7200, .inl z160_6_4666)), (a_16, .inl (cy 1, 3, .inl g548)), (a_17, .inl (cy 1, 3, .inl g4672))]) hS
                      have rg4672 : mm_ar g4672 0 210 := by rw [eg4672]; exact mm_ar_upd (mm_ar_wk h41 (by decide)) (mm_wk mm_k1 (by decide)) _
                      have L265_4696 : ∀ (n : Nat) (z265_8_4694 : Nat → Int32), mm_ar z265_8_4694 0 210 → mm_lf z265_8_4694 g548 i_0 → mm_xl f_5 z265_8_4694 i_0 → ((g548 (i_0 : Int32).toNatClampNeg).toInt - (z265_8_4694 (i_0 : Int32).toNatClampNeg).toInt).toNat < n → ∀ (H : Heap) (locs : List Loc), va_P G vwCl [(a_0, .inr (12, [.int i_1, .ref a_1, .ref a_2, .ref a_3, .ref a_4, .ref a_5, .int i_2, .int i_3, .int i_4, .int i_5, .int i_6, .long j_0, .int i_7, .int i_8, .int i_9, .int i_10, .ref a_6, .ref a_7, .ref a_8, .ref a_9, .ref a_10, .ref a_11, .ref a_12, .ref a_13, .ref a_14, .ref a_15, .ref a_16, .ref a_17, .ref a_18, .int i_11, .int i_12, .int i_13, .int i_14, .int i_15, .int i_16, .ref a_19, .int i_17, .ref a_20])), (a_6, .inl (cy 1, 5, .inl (mm_g [i_18, i_19, i_20, i_21, i_22]))), (a_7, .inl (cy 1, 30, .inl (mm_g [i_23, i_24, i_25, i_26, i_27, i_28, i_29, i_30, i_31, i_32, i_33, i_34, i_35, i_36, i_37, i_38, i_39, i_40, i_41, i_42, i_43, i_44, i_45, i_46, i_47, i_48, i_49, i_50, i_51, i_52]))), (a_9, .inl (cy 1, 15, .inl f_0)), (a_10, .inl (cy 1, 1050, .inl f_1)), (a_13, .inl (cy 1, 450, .inl f_2)), (a_15, .inl (cy 1, 7200, .inl z160_6_4666)), (a_16, .inl (cy 1, 3, .inl g548)), (a_17, .inl (cy 1, 3, .inl z265_8_4694))] H → va_D A [(a_0, .inr (12, [.int i_1, .ref a_1, .ref a_2, .ref a_3, .ref a_4, .ref a_5, .int i_2, .int i_3, .int i_4, .int i_5, .int i_6, .long j_0, .int i_7, .int i_8, .int i_9, .int i_10, .ref a_6, .ref a_7, .ref a_8, .ref a_9, .ref a_10, .ref a_11, .ref a_12, .ref a_13, .ref a_14, .ref a_15, .ref a_16, .ref a_17, .ref a_18, .int i_11, .int i_12, .int i_13, .int i_14, .int i_15, .int i_16, .ref a_19, .int i_17, .ref a_20])), (a_6, .inl (cy 1, 5, .inl (mm_g [i_18, i_19, i_20, i_21, i_22]))), (a_7, .inl (cy 1, 30, .inl (mm_g [i_23, i_24, i_25, i_26, i_27, i_28, i_29, i_30, i_31, i_32, i_33, i_34, i_35, i_36, i_37, i_38, i_39, i_40, i_41, i_42, i_43, i_44, i_45, i_46, i_47, i_48, i_49, i_50, i_51, i_52]))), (a_9, .inl (cy 1, 15, .inl f_0)), (a_10, .inl (cy 1, 1050, .inl f_1)), (a_13, .inl (cy 1, 450, .inl f_2)), (a_15, .inl (cy 1, 7200, .inl z160_6_4666)), (a_16, .inl (cy 1, 3, .inl g548)), (a_17, .inl (cy 1, 3, .inl z265_8_4694))] → va_S A s.heap H locs → ∀ (ls : Array Slot), lv_has ls 6 [(2, .int x160_2_4665), (0, .ref a_0), (1, .int i_0)] → W p l e R s m args below meth c H locs 0 0 Q (F0 m 265 ls []) := by
                        intro n
                        induction n with
                        | zero => intro z265_8_4694 rz265_8_4694 w4695 w4696 hm; exact absurd hm (Nat.not_lt_zero _)
                        | succ n ih265 =>
                          intro z265_8_4694 rz265_8_4694 w4695 w4696 hm265 H locs hP hD hS ls hl
                          refine lv_aload_n hx hb dX12_laysLand_265 rfl (lv_at hl 1 rfl) ?_
                          refine lv_iload_n hx hb dX12_laysLand_266 rfl (lv_at hl 2 rfl) ?_
                          refine lv_aload_n hx hb dX12_laysLand_267 rfl (lv_at hl 1 rfl) ?_
                          refine va_get (D := G) (ci := 12) (v := .ref a_17) (C := RX12) (T := TX12) (N := 38) hx hb hts (mm_i inlX12) hown hK.1 hP 0 rfl rfl 27 (by decide) (mm_h hts mm_w159) (fun _ h9 => h9) rfl dX12_laysLand_268 ?_
                          refine lv_iload_n hx hb dX12_laysLand_271 rfl (lv_at hl 2 rfl) ?_
                          refine va_iald hx hb hK.1 hP 8 1 rfl rfl (mm_in h0 (by decide)) dX12_laysLand_272 ?_
                          refine lv_topi (fun v4698 ev4698 => ?_)
                          have rv4698 : mm_rg v4698 0 210 := mm_eqv ev4698 (rz265_8_4694 _)
                          have q4699 : mm_rg v4698 1 210 := mm_lf_ld w4695 ev4698 rv4698
                          refine mm_finir (va_runV (As := [.int i_0, .int v4698]) (rest := []) ⟨hx, hb, hml, hown, hts⟩ (M123_X12_isRound l G cy H.size a_0 i_0 v4698 i_1 a_1 a_2 a_3 a_4 a_5 i_2 i_3 i_4 i_5 i_6 j_0 i_7 i_8 i_9 i_10 a_6 a_7 a_8 a_9 a_10 a_11 a_12 a_13 a_14 a_15 a_16 a_17 a_18 i_11 i_12 i_13 i_14 i_15 i_16 a_19 i_17 a_20 i_18 i_19 i_20 i_21 i_22 i_23 i_24 i_25 i_26 i_27 i_28 i_29 i_30 i_31 i_32 i_33 i_34 i_35 i_36 i_37 i_38 i_39 i_40 i_41 i_42 i_43 i_44 i_45 i_46 i_47 i_48 i_49 i_50 i_51 i_52 z160_6_4666 g548 h0 q4699 (mm_wk q2 (by decide)) h2 h3 h4 h5 h6 h7 h8 (mm_wk q1 (by decide)) h10 h11 h12 h13 h14 h15 h16 h17 h18 h19 h20 h21 h22 h23 h24 h25 h26 h27 h28 h29 h30 h31 h32 h33 h34 h35 rz160_6_4666 rg548 h44 h47 h50 h53 (mm_f1_u eg548 rv547 (by decide))) (cwV 2 hts (mm_gV mm_w709 mm_w710 mm_w711 mm_w5 mm_w712) rfl rfl rfl hd_X12_isRound ⟨by rw [hRf]; exact Nat.le_of_ble_eq_true rfl, by rw [hRl]; exact Nat.le_of_ble_eq_true rfl⟩) (mm_preV hK hZ hS hA hP hD [0, 1, 2, 6, 7] rfl rfl 0 rfl rfl rfl) rfl rfl hl.1 rfl (lv_room (Nat.le_of_ble_eq_true rfl)) dX12_laysLand_273 ⟨by rw [hRc]; exact Nat.le_of_ble_eq_true rfl, by rw [hRs]; exact Nat.le_of_ble_eq_true rfl⟩) hP hD hS hA [0, 1, 2, 6, 7] rfl (fun _ => rfl) ?_
                          clear hP hD hS
                          clear H locs
                          intro v4700 _u H locs hw hP hD hS
                          rcases hw with ⟨rfl, w4701⟩ | rfl
                          · have q4702 : mm_rg v4698 1 209 := mm_nr_d w4701 w4695 ev4698 rg548 q4699 (by decide)
                            refine lv_if_ne (tgt := 292) hx hb dX12_laysLand_276 (by decide) (fun c4703 => ?_) (fun c4703 => ?_)
                            · have q4704 := mm_neL (lo := 1) (mm_ne c4703) mm_k0 mm_k0 (by decide) (by decide)
                              exact mm_no q4704 (by decide)
                            · refine lv_aload_n hx hb dX12_laysLand_279 rfl (lv_at hl 1 rfl) ?_
                              refine va_get (D := G) (ci := 12) (v := .ref a_17) (C := RX12) (T := TX12) (N := 38) hx hb hts (mm_i inlX12) hown hK.1 hP 0 rfl rfl 27 (by decide) (mm_h hts mm_w159) (fun _ h9 => h9) rfl dX12_laysLand_280 ?_
                              refine lv_iload_n hx hb dX12_laysLand_283 rfl (lv_at hl 2 rfl) ?_
                              refine lv_dup2_11 hx hb dX12_laysLand_284 rfl rfl ?_
                              refine va_iald hx hb hK.1 hP 8 1 rfl rfl (mm_in h0 (by decide)) dX12_laysLand_285 ?_
                              refine lv_topi (fun v4705 ev4705 => ?_)
                              have rv4705 : mm_rg v4705 0 210 := mm_eqv ev4705 (rz265_8_4694 _)
                              have q4706 : mm_rg v4705 1 210 := mm_lf_ld w4695 ev4705 rv4705
                              obtain rfl : v4698 = v4705 := ev4698.trans ev4705.symm
                              refine lv_iconst (v := 1) hx hb dX12_laysLand_286 (by decide) ?_
                              refine lv_iadd hx hb dX12_laysLand_287 ?_
                              refine lv_topi (fun v4707 ev4707 => ?_)
                              have rv4707 : mm_rg v4707 2 210 := mm_add ev4707 q4702 mm_k1 (by decide) (by decide)
                              have tv4707 := mm_addEc ev4707 q4702 mm_k1 (by decide) (k := 1) (by decide)
                              refine va_iast hx hb hK.1 hP hD hS 8 1 rfl rfl (mm_in h0 (by decide)) dX12_laysLand_288 ?_
                              clear hP hD hS
                              clear H locs
                              obtain ⟨g4708, eg4708⟩ : ∃ z : Nat → Int32, z = upd z265_8_4694 i_0.toNatClampNeg v4707 := ⟨_, rfl⟩
                              rw [← eg4708]
                              intro H locs (hP : va_P G vwCl [(a_0, .inr (12, [.int i_1, .ref a_1, .ref a_2, .ref a_3, .ref a_4, .ref a_5, .int i_2, .int i_3, .int i_4, .int i_5, .int i_6, .long j_0, .int i_7, .int i_8, .int i_9, .int i_10, .ref a_6, .ref a_7, .ref a_8, .ref a_9, .ref a_10, .ref a_11, .ref a_12, .ref a_13, .ref a_14, .ref a_15, .ref a_16, .ref a_17, .ref a_18, .int i_11, .int i_12, .int i_13, .int i_14, .int i_15, .int i_16, .ref a_19, .int i_17, .ref a_20])), (a_6, .inl (cy 1, 5, .inl (mm_g [i_18, i_19, i_20, i_21, i_22]))), (a_7, .inl (cy 1, 30, .inl (mm_g [i_23, i_24, i_25, i_26, i_27, i_28, i_29, i_30, i_31, i_32, i_33, i_34, i_35, i_36, i_37, i_38, i_39, i_40, i_41, i_42, i_43, i_44, i_45, i_46, i_47, i_48, i_49, i_50, i_51, i_52]))), (a_9, .inl (cy 1, 15, .inl f_0)), (a_10, .inl (cy 1, 1050, .inl f_1)), (a_13, .inl (cy 1, 450, .inl f_2)), (a_15, .inl (cy 1, 7200, .inl z160_6_4666)), (a_16, .inl (cy 1, 3, .inl g548)), (a_17, .inl (cy 1, 3, .inl g4708))] H) (hD : va_D A [(a_0, .inr (12, [.int i_1, .ref a_1, .ref a_2, .ref a_3, .ref a_4, .ref a_5, .int i_2, .int i_3, .int i_4, .int i_5, .int i_6, .long j_0, .int i_7, .int i_8, .int i_9, .int i_10, .ref a_6, .ref a_7, .ref a_8, .ref a_9, .ref a_10, .ref a_11, .ref a_12, .ref a_13, .ref a_14, .ref a_15, .ref a_16, .ref a_17, .ref a_18, .int i_11, .int i_12, .int i_13, .int i_14, .int i_15, .int i_16, .ref a_19, .int i_17, .ref a_20])), (a_6, .inl (cy 1, 5, .inl (mm_g [i_18, i_19, i_20, i_21, i_22]))), (a_7, .inl (cy 1, 30, .inl (mm_g [i_23, i_24, i_25, i_26, i_27, i_28, i_29, i_30, i_31, i_32, i_33, i_34, i_35, i_36, i_37, i_38, i_39, i_40, i_41, i_42, i_43, i_44, i_45, i_46, i_47, i_48, i_49, i_50, i_51, i_52]))), (a_9, .inl (cy 1, 15, .inl f_0)), (a_10, .inl (cy 1, 1050, .inl f_1)), (a_13, .inl (cy 1, 450, .inl f_2)), (a_15, .inl (cy 1, 7200, .inl z160_6_4666)), (a_16, .inl (cy 1, 3, .inl g548)), (a_17, .inl (cy 1, 3, .inl g4708))]) hS
                              have rg4708 : mm_ar g4708 0 210 := by rw [eg4708]; exact mm_ar_upd (mm_ar_wk rz265_8_4694 (by decide)) (mm_wk rv4707 (by decide)) _
                              refine lv_goto (tgt := 265) hx hb dX12_laysLand_289 (by decide) ?_
                              exact ih265 g4708 rg4708 (mm_lf_s w4695 w4701 ev4698 eg4708 tv4707) (mm_xl_u w4696 eg4708) (mm_lfM hm265 w4695 w4701 ev4698 eg4708 tv4707) H locs hP hD hS ls (lv_sub hl [0, 1, 2] rfl)
                          · refine lv_if_ne (tgt := 292) hx hb dX12_laysLand_276 (by decide) (fun c4709 => ?_) (fun c4709 => ?_)
                            · have w4710 : mm_ll f_3 f_4 f_5 z160_6_4666 g548 z265_8_4694 i_0 i_25 := (mm_ll_of (mm_xl_u (mm_xl_r _ _) eg548) w4696 w4695 w4667 eg548 (mm_le c4671) tv4669 rv547 rx160_2_4665 trivial)
                              clear ih265 ih160 ih31 ih2
                              subst hAe
                              rw [hQ]
                              exact W.vret hx hb hr (fun t ht hW => ⟨⟨(z160_6_4666, g548, z265_8_4694), rfl, ⟨rz160_6_4666, rg548, rz265_8_4694, w4710⟩, by rw [ht]; exact hP, hK.warm hW, hD⟩, hS.F ht⟩) hS.2.2 dX12_laysLand_292
                            · exact mm_eqN c4709.symm mm_k0 mm_k1 (by decide)
                      exact L265_4696 _ g4672 rg4672 (mm_lf_0 eg4672 (mm_f1_u eg548 rv547 (by decide))) (mm_xl_u (mm_xl_r _ _) eg4672) (Nat.lt_succ_self _) H locs hP hD hS ls (lv_sub hl [0, 1, 2] rfl)
                    · have q4711 := mm_ltL (h := 209) (mm_nle c4671) rv4669 rv547 (by decide)
                      have q4712 := mm_ltR (lo := 2) (mm_nle c4671) rv4669 rv547 (by decide)
                      have q4713 : mm_rg x160_2_4665 0 208 := mm_unadd tv4669 q4711 rx160_2_4665 (by decide) (by decide)
                      refine lv_bipush (v := 10) hx hb dX12_laysLand_172 (by decide) ?_
                      refine lv_bipush (v := 7) hx hb dX12_laysLand_174 (by decide) ?_
                      refine lv_iload_n hx hb dX12_laysLand_176 rfl (lv_at hl 2 rfl) ?_
                      refine lv_imul hx hb dX12_laysLand_177 ?_
                      refine lv_topi (fun v4714 ev4714 => ?_)
                      have rv4714 : mm_rg v4714 0 14 := mm_mul ev4714 mm_k7 h0 (by decide) (by decide)
                      have tv4714 := mm_mulEc ev4714 mm_k7 h0 (by decide) (k := 7) (by decide)
                      refine lv_iload_n hx hb dX12_laysLand_178 rfl (lv_at hl 0 rfl) ?_
                      refine lv_aload_n hx hb dX12_laysLand_179 rfl (lv_at hl 1 rfl) ?_
                      refine va_get (D := G) (ci := 12) (v := .ref a_9) (C := RX12) (T := TX12) (N := 38) hx hb hts (mm_i inlX12) hown hK.1 hP 0 rfl rfl 19 (by decide) (mm_h hts mm_w151) (fun _ h9 => h9) rfl dX12_laysLand_180 ?_
                      refine lv_iload_n hx hb dX12_laysLand_183 rfl (lv_at hl 2 rfl) ?_
                      refine va_iald hx hb hK.1 hP 3 1 rfl rfl (mm_in h0 (by decide)) dX12_laysLand_184 ?_
                      refine lv_topi (fun v4715 ev4715 => ?_)
                      have rv4715 : mm_rg v4715 0 7 := mm_eqv ev4715 (h36 _)
                      obtain rfl : v541 = v4715 := ev541.trans ev4715.symm
                      refine lv_irem hx hb dX12_laysLand_185 (mm_nz q543 (by decide)) ?_
                      refine lv_topi (fun v4716 ev4716 => ?_)
                      have rv4716 : mm_rg v4716 0 6 := mm_rem ev4716 q4713 q543 (by decide) (by decide)
                      refine lv_iadd hx hb dX12_laysLand_186 ?_
                      refine lv_topi (fun v4717 ev4717 => ?_)
                      have rv4717 : mm_rg v4717 0 20 := mm_add ev4717 rv4714 rv4716 (by decide) (by decide)
                      have tv4717 := mm_addE ev4717 rv4714 rv4716 (by decide)
                      refine lv_imul hx hb dX12_laysLand_187 ?_
                      refine lv_topi (fun v4718 ev4718 => ?_)
                      have rv4718 : mm_rg v4718 0 200 := mm_mul ev4718 mm_k10 rv4717 (by decide) (by decide)
                      have tv4718 := mm_mulEc ev4718 mm_k10 rv4717 (by decide) (k := 10) (by decide)
                      refine lv_istore_n (lv' := [(3, .int v4718), (2, .int x160_2_4665), (0, .ref a_0), (1, .int i_0)]) hx hb dX12_laysLand_188 rfl hl (by decide) rfl ?_
                      clear hl
                      clear ls
                      intro ls hl
                      refine lv_iconst (v := 0) hx hb dX12_laysLand_189 (by decide) ?_
                      refine lv_istore (lv' := [(4, .int 0), (3, .int v4718), (2, .int x160_2_4665), (0, .ref a_0), (1, .int i_0)]) hx hb dX12_laysLand_190 hl (by decide) rfl ?_
                      clear hl
                      clear ls
                      intro ls hl
                      have L192_4979 : ∀ (n : Nat) (x192_4_4977 : Int32) (z192_6_4978 : Nat → Int32), mm_rg x192_4_4977 0 10 → mm_ar z192_6_4978 0 9 → mm_te f_3 z192_6_4978 f_1 i_0 x160_2_4665 v4718 x192_4_4977 i_25 → (10 - x192_4_4977.toInt).toNat < n → ∀ (H : Heap) (locs : List Loc), va_P G vwCl [(a_0, .inr (12, [.int i_1, .ref a_1, .ref a_2, .ref a_3, .ref a_4, .ref a_5, .int i_2, .int i_3, .int i_4, .int i_5, .int i_6, .long j_0, .int i_7, .int i_8, .int i_9, .int i_10, .ref a_6, .ref a_7, .ref a_8, .ref a_9, .ref a_10, .ref a_11, .ref a_12, .ref a_13, .ref a_14, .ref a_15, .ref a_16, .ref a_17, .ref a_18, .int i_11, .int i_12, .int i_13, .int i_14, .int i_15, .int i_16, .ref a_19, .int i_17, .ref a_20])), (a_6, .inl (cy 1, 5, .inl (mm_g [i_18, i_19, i_20, i_21, i_22]))), (a_7, .inl (cy 1, 30, .inl (mm_g [i_23, i_24, i_25, i_26, i_27, i_28, i_29, i_30, i_31, i_32, i_33, i_34, i_35, i_36, i_37, i_38, i_39, i_40, i_41, i_42, i_43, i_44, i_45, i_46, i_47, i_48, i_49, i_50, i_51, i_52]))), (a_9, .inl (cy 1, 15, .inl f_0)), (a_10, .inl (cy 1, 1050, .inl f_1)), (a_13, .inl (cy 1, 450, .inl f_2)), (a_15, .inl (cy 1, 7200, .inl z192_6_4978)), (a_16, .inl (cy 1, 3, .inl g548)), (a_17, .inl (cy 1, 3, .inl f_5))] H → va_D A [(a_0, .inr (12, [.int i_1, .ref a_1, .ref a_2, .ref a_3, .ref a_4, .ref a_5, .int i_2, .int i_3, .int i_4, .int i_5, .int i_6, .long j_0, .int i_7, .int i_8, .int i_9, .int i_10, .ref a_6, .ref a_7, .ref a_8, .ref a_9, .ref a_10, .ref a_11, .ref a_12, .ref a_13, .ref a_14, .ref a_15, .ref a_16, .ref a_17, .ref a_18, .int i_11, .int i_12, .int i_13, .int i_14, .int i_15, .int i_16, .ref a_19, .int i_17, .ref a_20])), (a_6, .inl (cy 1, 5, .inl (mm_g [i_18, i_19, i_20, i_21, i_22]))), (a_7, .inl (cy 1, 30, .inl (mm_g [i_23, i_24, i_25, i_26, i_27, i_28, i_29, i_30, i_31, i_32, i_33, i_34, i_35, i_36, i_37, i_38, i_39, i_40, i_41, i_42, i_43, i_44, i_45, i_46, i_47, i_48, i_49, i_50, i_51, i_52]))), (a_9, .inl (cy 1, 15, .inl f_0)), (a_10, .inl (cy 1, 1050, .inl f_1)), (a_13, .inl (cy 1, 450, .inl f_2)), (a_15, .inl (cy 1, 7200, .inl z192_6_4978)), (a_16, .inl (cy 1, 3, .inl g548)), (a_17, .inl (cy 1, 3, .inl f_5))] → va_S A s.heap H locs → ∀ (ls : Array Slot), lv_has ls 6 [(4, .int x192_4_4977), (3, .int v4718), (2, .int x160_2_4665), (0, .ref a_0), (1, .int i_0)] → W p l e R s m args below meth c H locs 0 0 Q (F0 m 192 ls []) := by
                        intro n
                        induction n with
                        | zero => intro x192_4_4977 z192_6_4978 rx192_4_4977 rz192_6_4978 w4979 hm; exact absurd hm (Nat.not_lt_zero _)
                        | succ n ih192 =>
                          intro x192_4_4977 z192_6_4978 rx192_4_4977 rz192_6_4978 w4979 hm192 H locs hP hD hS ls hl
                          refine lv_iload hx hb dX12_laysLand_192 (lv_at hl 0 rfl) ?_
                          refine lv_aload_n hx hb dX12_laysLand_194 rfl (lv_at hl 3 rfl) ?_
                          refine mm_finir (va_runV (As := []) (rest := [.int x192_4_4977]) ⟨hx, hb, hml, hown, hts⟩ (M100_X12_words l G cy H.size a_0 i_1 a_1 a_2 a_3 a_4 a_5 i_2 i_3 i_4 i_5 i_6 j_0 i_7 i_8 i_9 i_10 a_6 a_7 a_8 a_9 a_10 a_11 a_12 a_13 a_14 a_15 a_16 a_17 a_18 i_11 i_12 i_13 i_14 i_15 i_16 a_19 i_17 a_20 i_18 i_19 i_20 i_21 i_22 i_23 i_24 i_25 i_26 i_27 i_28 i_29 i_30 i_31 i_32 i_33 i_34 i_35 i_36 i_37 i_38 i_39 i_40 i_41 i_42 i_43 i_44 i_45 i_46 i_47 i_48 i_49 i_50 i_51 i_52 q2 h2 h3 h4 h5 h6 h7 h8 (mm_wk q1 (by decide)) h10 h11 h12 h13 h14 h15 h16 h17 h18 h19 h20 h21 h22 h23 h24 h25 h26 h27 h28 h29 h30 h31 h32 h33 h34 h35 h44 h47 h50 h53) (cwV 0 hts (mm_gV mm_w649 mm_w650 mm_w651 mm_w5 mm_w652) rfl rfl rfl hd_X12_words ⟨by rw [hRf]; exact Nat.le_of_ble_eq_true rfl, by rw [hRl]; exact Nat.le_of_ble_eq_true rfl⟩) (mm_preV hK hZ hS hA hP hD [0, 1, 2] rfl rfl 0 rfl rfl rfl) rfl rfl hl.1 rfl (lv_room (Nat.le_of_ble_eq_true rfl)) dX12_laysLand_195 ⟨by rw [hRc]; exact Nat.le_of_ble_eq_true rfl, by rw [hRs]; exact Nat.le_of_ble_eq_true rfl⟩) hP hD hS hA [0, 1, 2] rfl (fun _ => rfl) ?_
                          clear hP hD hS
                          clear H locs
                          intro v4981 _u H locs hw hP hD hS
                          obtain ⟨w4982, w4983⟩ := hw
                          have t4984 : (v4981 : Int32).toInt = (i_25 : Int32).toInt + 1 := w4983
                          refine lv_icmp_ge (tgt := 252) hx hb dX12_laysLand_198 (by decide) (fun c4985 => ?_) (fun c4985 => ?_)
                          · have q4986 := mm_leR (mm_le c4985) w4982 rx192_4_4977
                            obtain ⟨v4987, ev4987⟩ : ∃ y : Int32, y = x160_2_4665 + 1 := ⟨_, rfl⟩
                            refine lv_iinc (v := v4987) (lv' := [(2, .int v4987), (4, .int x192_4_4977), (3, .int v4718), (0, .ref a_0), (1, .int i_0)]) hx hb dX12_laysLand_252 hl (k := 2) rfl (by rw [ev4987]; rfl) (by decide) rfl ?_
                            clear hl
                            clear ls
                            intro ls hl
                            have rv4987 : mm_rg v4987 1 209 := mm_add ev4987 q4713 mm_k1 (by decide) (by decide)
                            have tv4987 := mm_addEc ev4987 q4713 mm_k1 (by decide) (k := 1) (by decide)
                            refine lv_goto (tgt := 160) hx hb dX12_laysLand_255 (by decide) ?_
                            exact ih160 v4987 z192_6_4978 (mm_wk rv4987 (by decide)) rz192_6_4978 (mm_td_s w4979 tv4987 t4984 (mm_le c4985) h42 h54 ev541 ev4716 (by have := tv4718; have := tv4717; have := tv4714; omega) h0 q4713 q543 h8 (by decide)) (mm_mu hm160 tv4987 (by decide) (rv4987).2 (by decide)) H locs hP hD hS ls (lv_sub hl [0, 3, 4] rfl)
                          · have q4988 := mm_ltL (h := 9) (mm_nle c4985) rx192_4_4977 w4982 (by decide)
                            refine lv_aload_n hx hb dX12_laysLand_201 rfl (lv_at hl 3 rfl) ?_
                            refine va_get (D := G) (ci := 12) (v := .ref a_15) (C := RX12) (T := TX12) (N := 38) hx hb hts (mm_i inlX12) hown hK.1 hP 0 rfl rfl 25 (by decide) (mm_h hts mm_w157) (fun _ h9 => h9) rfl dX12_laysLand_202 ?_
                            refine lv_sipush (v := 2400) hx hb dX12_laysLand_205 (by decide) ?_
                            refine lv_iload_n hx hb dX12_laysLand_208 rfl (lv_at hl 4 rfl) ?_
                            refine lv_imul hx hb dX12_laysLand_209 ?_
                            refine lv_topi (fun v4989 ev4989 => ?_)
                            have rv4989 : mm_rg v4989 0 4800 := mm_mul ev4989 mm_k2400 h0 (by decide) (by decide)
                            have tv4989 := mm_mulEc ev4989 mm_k2400 h0 (by decide) (k := 2400) (by decide)
                            refine lv_bipush (v := 10) hx hb dX12_laysLand_210 (by decide) ?_
                            refine lv_iload_n hx hb dX12_laysLand_212 rfl (lv_at hl 2 rfl) ?_
                            refine lv_iconst (v := 1) hx hb dX12_laysLand_213 (by decide) ?_
                            refine lv_iadd hx hb dX12_laysLand_214 ?_
                            refine lv_topi (fun v4990 ev4990 => ?_)
                            have rv4990 : mm_rg v4990 1 209 := mm_add ev4990 q4713 mm_k1 (by decide) (by decide)
                            have tv4990 := mm_addEc ev4990 q4713 mm_k1 (by decide) (k := 1) (by decide)
                            refine lv_imul hx hb dX12_laysLand_215 ?_
                            refine lv_topi (fun v4991 ev4991 => ?_)
                            have rv4991 : mm_rg v4991 10 2090 := mm_mul ev4991 mm_k10 rv4990 (by decide) (by decide)
                            have tv4991 := mm_mulEc ev4991 mm_k10 rv4990 (by decide) (k := 10) (by decide)
                            refine lv_iadd hx hb dX12_laysLand_216 ?_
                            refine lv_topi (fun v4992 ev4992 => ?_)
                            have rv4992 : mm_rg v4992 10 6890 := mm_add ev4992 rv4989 rv4991 (by decide) (by decide)
                            have tv4992 := mm_addE ev4992 rv4989 rv4991 (by decide)
                            refine lv_iload hx hb dX12_laysLand_217 (lv_at hl 0 rfl) ?_
                            refine lv_iadd hx hb dX12_laysLand_219 ?_
                            refine lv_topi (fun v4993 ev4993 => ?_)
                            have rv4993 : mm_rg v4993 10 6899 := mm_add ev4993 rv4992 q4988 (by decide) (by decide)
                            have tv4993 := mm_addE ev4993 rv4992 q4988 (by decide)
                            refine lv_aload_n hx hb dX12_laysLand_220 rfl (lv_at hl 3 rfl) ?_
                            refine va_get (D := G) (ci := 12) (v := .ref a_15) (C := RX12) (T := TX12) (N := 38) hx hb hts (mm_i inlX12) hown hK.1 hP 0 rfl rfl 25 (by decide) (mm_h hts mm_w157) (fun _ h9 => h9) rfl dX12_laysLand_221 ?_
                            refine lv_sipush (v := 2400) hx hb dX12_laysLand_224 (by decide) ?_
                            refine lv_iload_n hx hb dX12_laysLand_227 rfl (lv_at hl 4 rfl) ?_
                            refine lv_imul hx hb dX12_laysLand_228 ?_
                            refine lv_topi (fun v4994 ev4994 => ?_)
                            have rv4994 : mm_rg v4994 0 4800 := mm_mul ev4994 mm_k2400 h0 (by decide) (by decide)
                            have tv4994 := mm_mulEc ev4994 mm_k2400 h0 (by decide) (k := 2400) (by decide)
                            refine lv_bipush (v := 10) hx hb dX12_laysLand_229 (by decide) ?_
                            refine lv_iload_n hx hb dX12_laysLand_231 rfl (lv_at hl 2 rfl) ?_
                            refine lv_imul hx hb dX12_laysLand_232 ?_
                            refine lv_topi (fun v4995 ev4995 => ?_)
                            have rv4995 : mm_rg v4995 0 2080 := mm_mul ev4995 mm_k10 q4713 (by decide) (by decide)
                            have tv4995 := mm_mulEc ev4995 mm_k10 q4713 (by decide) (k := 10) (by decide)
                            refine lv_iadd hx hb dX12_laysLand_233 ?_
                            refine lv_topi (fun v4996 ev4996 => ?_)
                            have rv4996 : mm_rg v4996 0 6880 := mm_add ev4996 rv4994 rv4995 (by decide) (by decide)
                            have tv4996 := mm_addE ev4996 rv4994 rv4995 (by decide)
                            refine lv_aload_n hx hb dX12_laysLand_234 rfl (lv_at hl 3 rfl) ?_
                            refine va_get (D := G) (ci := 12) (v := .ref a_10) (C := RX12) (T := TX12) (N := 38) hx hb hts (mm_i inlX12) hown hK.1 hP 0 rfl rfl 20 (by decide) (mm_h hts mm_w152) (fun _ h9 => h9) rfl dX12_laysLand_235 ?_
                            refine lv_iload_n hx hb dX12_laysLand_238 rfl (lv_at hl 1 rfl) ?_
                            refine lv_iload hx hb dX12_laysLand_239 (lv_at hl 0 rfl) ?_
                            refine lv_iadd hx hb dX12_laysLand_241 ?_
                            refine lv_topi (fun v4997 ev4997 => ?_)
                            have rv4997 : mm_rg v4997 0 209 := mm_add ev4997 rv4718 q4988 (by decide) (by decide)
                            have tv4997 := mm_addE ev4997 rv4718 q4988 (by decide)
                            refine va_iald hx hb hK.1 hP 4 1 rfl rfl (mm_in rv4997 (by decide)) dX12_laysLand_242 ?_
                            refine lv_topi (fun v4998 ev4998 => ?_)
                            have rv4998 : mm_rg v4998 0 9 := mm_eqv ev4998 (h37 _)
                            refine lv_iadd hx hb dX12_laysLand_243 ?_
                            refine lv_topi (fun v4999 ev4999 => ?_)
                            have rv4999 : mm_rg v4999 0 6889 := mm_add ev4999 rv4996 rv4998 (by decide) (by decide)
                            have tv4999 := mm_addE ev4999 rv4996 rv4998 (by decide)
                            refine va_iald hx hb hK.1 hP 6 1 rfl rfl (mm_in rv4999 (by decide)) dX12_laysLand_244 ?_
                            refine lv_topi (fun v5000 ev5000 => ?_)
                            have rv5000 : mm_rg v5000 0 9 := mm_eqv ev5000 (rz192_6_4978 _)
                            refine va_iast hx hb hK.1 hP hD hS 6 1 rfl rfl (mm_in rv4993 (by decide)) dX12_laysLand_245 ?_
                            clear hP hD hS
                            clear H locs
                            obtain ⟨g5001, eg5001⟩ : ∃ z : Nat → Int32, z = upd z192_6_4978 v4993.toNatClampNeg v5000 := ⟨_, rfl⟩
                            rw [← eg5001]
                            intro H locs (hP : va_P G vwCl [(a_0, .inr (12, [.int i_1, .ref a_1, .ref a_2, .ref a_3, .ref a_4, .ref a_5, .int i_2, .int i_3, .int i_4, .int i_5, .int i_6, .long j_0, .int i_7, .int i_8, .int i_9, .int i_10, .ref a_6, .ref a_7, .ref a_8, .ref a_9, .ref a_10, .ref a_11, .ref a_12, .ref a_13, .ref a_14, .ref a_15, .ref a_16, .ref a_17, .ref a_18, .int i_11, .int i_12, .int i_13, .int i_14, .int i_15, .int i_16, .ref a_19, .int i_17, .ref a_20])), (a_6, .inl (cy 1, 5, .inl (mm_g [i_18, i_19, i_20, i_21, i_22]))), (a_7, .inl (cy 1, 30, .inl (mm_g [i_23, i_24, i_25, i_26, i_27, i_28, i_29, i_30, i_31, i_32, i_33, i_34, i_35, i_36, i_37, i_38, i_39, i_40, i_41, i_42, i_43, i_44, i_45, i_46, i_47, i_48, i_49, i_50, i_51, i_52]))), (a_9, .inl (cy 1, 15, .inl f_0)), (a_10, .inl (cy 1, 1050, .inl f_1)), (a_13, .inl (cy 1, 450, .inl f_2)), (a_15, .inl (cy 1, 7200, .inl g5001)), (a_16, .inl (cy 1, 3, .inl g548)), (a_17, .inl (cy 1, 3, .inl f_5))] H) (hD : va_D A [(a_0, .inr (12, [.int i_1, .ref a_1, .ref a_2, .ref a_3, .ref a_4, .ref a_5, .int i_2, .int i_3, .int i_4, .int i_5, .int i_6, .long j_0, .int i_7, .int i_8, .int i_9, .int i_10, .ref a_6, .ref a_7, .ref a_8, .ref a_9, .ref a_10, .ref a_11, .ref a_12, .ref a_13, .ref a_14, .ref a_15, .ref a_16, .ref a_17, .ref a_18, .int i_11, .int i_12, .int i_13, .int i_14, .int i_15, .int i_16, .ref a_19, .int i_17, .ref a_20])), (a_6, .inl (cy 1, 5, .inl (mm_g [i_18, i_19, i_20, i_21, i_22]))), (a_7, .inl (cy 1, 30, .inl (mm_g [i_23, i_24, i_25, i_26, i_27, i_28, i_29, i_30, i_31, i_32, i_33, i_34, i_35, i_36, i_37, i_38, i_39, i_40, i_41, i_42, i_43, i_44, i_45, i_46, i_47, i_48, i_49, i_50, i_51, i_52]))), (a_9, .inl (cy 1, 15, .inl f_0)), (a_10, .inl (cy 1, 1050, .inl f_1)), (a_13, .inl (cy 1, 450, .inl f_2)), (a_15, .inl (cy 1, 7200, .inl g5001)), (a_16, .inl (cy 1, 3, .inl g548)), (a_17, .inl (cy 1, 3, .inl f_5))]) hS
                            have rg5001 : mm_ar g5001 0 9 := by rw [eg5001]; exact mm_ar_upd (mm_ar_wk rz192_6_4978 (by decide)) (mm_wk rv5000 (by decide)) _
                            obtain ⟨v5002, ev5002⟩ : ∃ y : Int32, y = x192_4_4977 + 1 := ⟨_, rfl⟩
                            refine lv_iinc (v := v5002) (lv' := [(4, .int v5002), (3, .int v4718), (2, .int x160_2_4665), (0, .ref a_0), (1, .int i_0)]) hx hb dX12_laysLand_246 hl (k := 0) rfl (by rw [ev5002]; rfl) (by decide) rfl ?_
                            clear hl
                            clear ls
                            intro ls hl
                            have rv5002 : mm_rg v5002 1 10 := mm_add ev5002 q4988 mm_k1 (by decide) (by decide)
                            have tv5002 := mm_addEc ev5002 q4988 mm_k1 (by decide) (k := 1) (by decide)
                            refine lv_goto (tgt := 192) hx hb dX12_laysLand_249 (by decide) ?_
                            exact ih192 v5002 g5001 (mm_wk rv5002 (by decide)) rg5001 (mm_te_s w4979 tv5002 eg5001 ev5000 ev4998 (by have := tv4993; have := tv4992; have := tv4991; have := tv4990; have := tv4989; omega) (by have := tv4999; have := tv4996; have := tv4995; have := tv4994; omega) tv4997 h0 q4713 q4988 rv4998 rv4718 h8 (by decide) (fun i => h37 i)) (mm_mu hm192 tv5002 (by decide) (rv5002).2 (by decide)) H locs hP hD hS ls (lv_sub hl [0, 1, 2, 3, 4] rfl)
                      exact L192_4979 _ 0 z160_6_4666 (mm_wk mm_k0 (by decide)) rz160_6_4666 (mm_te_0 w4667) (Nat.lt_succ_self _) H locs hP hD hS ls (lv_sub hl [0, 1, 2, 3, 4] rfl)
                exact L160_4667 _ 0 z31_6_537 (mm_wk mm_k0 (by decide)) rz31_6_537 (mm_td_0 w538) (Nat.lt_succ_self _) H locs hP hD hS ls (lv_sub hl [0, 1, 2] rfl)
              · have q5003 := mm_eqI (lo := 0) (hi := 0) c542 rv541 mm_k0 (by decide)
                refine lv_iconst (v := 1) hx hb dX12_laysLand_141 (by decide) ?_
                refine lv_goto (tgt := 157) hx hb dX12_laysLand_142 (by decide) ?_
                refine va_iast hx hb hK.1 hP hD hS 7 1 rfl rfl (mm_in h0 (by decide)) dX12_laysLand_157 ?_
                clear hP hD hS
                clear H locs
                obtain ⟨g5004, eg5004⟩ : ∃ z : Nat → Int32, z = upd f_4 i_0.toNatClampNeg 1 := ⟨_, rfl⟩
                rw [← eg5004]
                intro H locs (hP : va_P G vwCl [(a_0, .inr (12, [.int i_1, .ref a_1, .ref a_2, .ref a_3, .ref a_4, .ref a_5, .int i_2, .int i_3, .int i_4, .int i_5, .int i_6, .long j_0, .int i_7, .int i_8, .int i_9, .int i_10, .ref a_6, .ref a_7, .ref a_8, .ref a_9, .ref a_10, .ref a_11, .ref a_12, .ref a_13, .ref a_14, .ref a_15, .ref a_16, .ref a_17, .ref a_18, .int i_11, .int i_12, .int i_13, .int i_14, .int i_15, .int i_16, .ref a_19, .int i_17, .ref a_20])), (a_6, .inl (cy 1, 5, .inl (mm_g [i_18, i_19, i_20, i_21, i_22]))), (a_7, .inl (cy 1, 30, .inl (mm_g [i_23, i_24, i_25, i_26, i_27, i_28, i_29, i_30, i_31, i_32, i_33, i_34, i_35, i_36, i_37, i_38, i_39, i_40, i_41, i_42, i_43, i_44, i_45, i_46, i_47, i_48, i_49, i_50, i_51, i_52]))), (a_9, .inl (cy 1, 15, .inl f_0)), (a_10, .inl (cy 1, 1050, .inl f_1)), (a_13, .inl (cy 1, 450, .inl f_2)), (a_15, .inl (cy 1, 7200, .inl z31_6_537)), (a_16, .inl (cy 1, 3, .inl g5004)), (a_17, .inl (cy 1, 3, .inl f_5))] H) (hD : va_D A [(a_0, .inr (12, [.int i_1, .ref a_1, .ref a_2, .ref a_3, .ref a_4, .ref a_5, .int i_2, .int i_3, .int i_4, .int i_5, .int i_6, .long j_0, .int i_7, .int i_8, .int i_9, .int i_10, .ref a_6, .ref a_7, .ref a_8, .ref a_9, .ref a_10, .ref a_11, .ref a_12, .ref a_13, .ref a_14, .ref a_15, .ref a_16, .ref a_17, .ref a_18, .int i_11, .int i_12, .int i_13, .int i_14, .int i_15, .int i_16, .ref a_19, .int i_17, .ref a_20])), (a_6, .inl (cy 1, 5, .inl (mm_g [i_18, i_19, i_20, i_21, i_22]))), (a_7, .inl (cy 1, 30, .inl (mm_g [i_23, i_24, i_25, i_26, i_27, i_28, i_29, i_30, i_31, i_32, i_33, i_34, i_35, i_36, i_37, i_38, i_39, i_40, i_41, i_42, i_43, i_44, i_45, i_46, i_47, i_48, i_49, i_50, i_51, i_52]))), (a_9, .inl (cy 1, 15, .inl f_0)), (a_10, .inl (cy 1, 1050, .inl f_1)), (a_13, .inl (cy 1, 450, .inl f_2)), (a_15, .inl (cy 1, 7200, .inl z31_6_537)), (a_16, .inl (cy 1, 3, .inl g5004)), (a_17, .inl (cy 1, 3, .inl f_5))]) hS
                have rg5004 : mm_ar g5004 0 210 := by rw [eg5004]; exact mm_ar_upd (mm_ar_wk h40 (by decide)) (mm_wk mm_k1 (by decide)) _
                refine lv_iconst (v := 0) hx hb dX12_laysLand_158 (by decide) ?_
                refine lv_istore_n (lv' := [(2, .int 0), (0, .ref a_0), (1, .int i_0)]) hx hb dX12_laysLand_159 rfl hl (by decide) rfl ?_
                clear hl
                clear ls
                intro ls hl
                refine lv_iload_n hx hb dX12_laysLand_160 rfl (lv_at hl 0 rfl) ?_
                refine lv_iconst (v := 1) hx hb dX12_laysLand_161 (by decide) ?_
                refine lv_iadd hx hb dX12_laysLand_162 ?_
                refine lv_topi (fun v5009 ev5009 => ?_)
                obtain rfl : v5009 = 1 := ev5009.trans (by decide)
                refine lv_aload_n hx hb dX12_laysLand_163 rfl (lv_at hl 1 rfl) ?_
                refine va_get (D := G) (ci := 12) (v := .ref a_16) (C := RX12) (T := TX12) (N := 38) hx hb hts (mm_i inlX12) hown hK.1 hP 0 rfl rfl 26 (by decide) (mm_h hts mm_w158) (fun _ h9 => h9) rfl dX12_laysLand_164 ?_
                refine lv_iload_n hx hb dX12_laysLand_167 rfl (lv_at hl 2 rfl) ?_
                refine va_iald hx hb hK.1 hP 7 1 rfl rfl (mm_in h0 (by decide)) dX12_laysLand_168 ?_
                refine lv_topi (fun v5010 ev5010 => ?_)
                obtain rfl : v5010 = 1 := ev5010.trans (by rw [eg5004]; exact pk_us)
                refine lv_icmp_ge (tgt := 258) hx hb dX12_laysLand_169 (by decide) (fun c5011 => ?_) (fun c5011 => ?_)
                · refine lv_aload_n hx hb dX12_laysLand_258 rfl (lv_at hl 1 rfl) ?_
                  refine va_get (D := G) (ci := 12) (v := .ref a_17) (C := RX12) (T := TX12) (N := 38) hx hb hts (mm_i inlX12) hown hK.1 hP 0 rfl rfl 27 (by decide) (mm_h hts mm_w159) (fun _ h9 => h9) rfl dX12_laysLand_259 ?_
                  refine lv_iload_n hx hb dX12_laysLand_262 rfl (lv_at hl 2 rfl) ?_
                  refine lv_iconst (v := 1) hx hb dX12_laysLand_263 (by decide) ?_
                  refine va_iast hx hb hK.1 hP hD hS 8 1 rfl rfl (mm_in h0 (by decide)) dX12_laysLand_264 ?_
                  clear hP hD hS
                  clear H locs
                  obtain ⟨g5012, eg5012⟩ : ∃ z : Nat → Int32, z = upd f_5 i_0.toNatClampNeg 1 := ⟨_, rfl⟩
                  rw [← eg5012]
                  intro H locs (hP : va_P G vwCl [(a_0, .inr (12, [.int i_1, .ref a_1, .ref a_2, .ref a_3, .ref a_4, .ref a_5, .int i_2, .int i_3, .int i_4, .int i_5, .int i_6, .long j_0, .int i_7, .int i_8, .int i_9, .int i_10, .ref a_6, .ref a_7, .ref a_8, .ref a_9, .ref a_10, .ref a_11, .ref a_12, .ref a_13, .ref a_14, .ref a_15, .ref a_16, .ref a_17, .ref a_18, .int i_11, .int i_12, .int i_13, .int i_14, .int i_15, .int i_16, .ref a_19, .int i_17, .ref a_20])), (a_6, .inl (cy 1, 5, .inl (mm_g [i_18, i_19, i_20, i_21, i_22]))), (a_7, .inl (cy 1, 30, .inl (mm_g [i_23, i_24, i_25, i_26, i_27, i_28, i_29, i_30, i_31, i_32, i_33, i_34, i_35, i_36, i_37, i_38, i_39, i_40, i_41, i_42, i_43, i_44, i_45, i_46, i_47, i_48, i_49, i_50, i_51, i_52]))), (a_9, .inl (cy 1, 15, .inl f_0)), (a_10, .inl (cy 1, 1050, .inl f_1)), (a_13, .inl (cy 1, 450, .inl f_2)), (a_15, .inl (cy 1, 7200, .inl z31_6_537)), (a_16, .inl (cy 1, 3, .inl g5004)), (a_17, .inl (cy 1, 3, .inl g5012))] H) (hD : va_D A [(a_0, .inr (12, [.int i_1, .ref a_1, .ref a_2, .ref a_3, .ref a_4, .ref a_5, .int i_2, .int i_3, .int i_4, .int i_5, .int i_6, .long j_0, .int i_7, .int i_8, .int i_9, .int i_10, .ref a_6, .ref a_7, .ref a_8, .ref a_9, .ref a_10, .ref a_11, .ref a_12, .ref a_13, .ref a_14, .ref a_15, .ref a_16, .ref a_17, .ref a_18, .int i_11, .int i_12, .int i_13, .int i_14, .int i_15, .int i_16, .ref a_19, .int i_17, .ref a_20])), (a_6, .inl (cy 1, 5, .inl (mm_g [i_18, i_19, i_20, i_21, i_22]))), (a_7, .inl (cy 1, 30, .inl (mm_g [i_23, i_24, i_25, i_26, i_27, i_28, i_29, i_30, i_31, i_32, i_33, i_34, i_35, i_36, i_37, i_38, i_39, i_40, i_41, i_42, i_43, i_44, i_45, i_46, i_47, i_48, i_49, i_50, i_51, i_52]))), (a_9, .inl (cy 1, 15, .inl f_0)), (a_10, .inl (cy 1, 1050, .inl f_1)), (a_13, .inl (cy 1, 450, .inl f_2)), (a_15, .inl (cy 1, 7200, .inl z31_6_537)), (a_16, .inl (cy 1, 3, .inl g5004)), (a_17, .inl (cy 1, 3, .inl g5012))]) hS
                  have rg5012 : mm_ar g5012 0 210 := by rw [eg5012]; exact mm_ar_upd (mm_ar_wk h41 (by decide)) (mm_wk mm_k1 (by decide)) _
                  have L265_5036 : ∀ (n : Nat) (z265_8_5034 : Nat → Int32), mm_ar z265_8_5034 0 210 → mm_lf z265_8_5034 g5004 i_0 → mm_xl f_5 z265_8_5034 i_0 → ((g5004 (i_0 : Int32).toNatClampNeg).toInt - (z265_8_5034 (i_0 : Int32).toNatClampNeg).toInt).toNat < n → ∀ (H : Heap) (locs : List Loc), va_P G vwCl [(a_0, .inr (12, [.int i_1, .ref a_1, .ref a_2, .ref a_3, .ref a_4, .ref a_5, .int i_2, .int i_3, .int i_4, .int i_5, .int i_6, .long j_0, .int i_7, .int i_8, .int i_9, .int i_10, .ref a_6, .ref a_7, .ref a_8, .ref a_9, .ref a_10, .ref a_11, .ref a_12, .ref a_13, .ref a_14, .ref a_15, .ref a_16, .ref a_17, .ref a_18, .int i_11, .int i_12, .int i_13, .int i_14, .int i_15, .int i_16, .ref a_19, .int i_17, .ref a_20])), (a_6, .inl (cy 1, 5, .inl (mm_g [i_18, i_19, i_20, i_21, i_22]))), (a_7, .inl (cy 1, 30, .inl (mm_g [i_23, i_24, i_25, i_26, i_27, i_28, i_29, i_30, i_31, i_32, i_33, i_34, i_35, i_36, i_37, i_38, i_39, i_40, i_41, i_42, i_43, i_44, i_45, i_46, i_47, i_48, i_49, i_50, i_51, i_52]))), (a_9, .inl (cy 1, 15, .inl f_0)), (a_10, .inl (cy 1, 1050, .inl f_1)), (a_13, .inl (cy 1, 450, .inl f_2)), (a_15, .inl (cy 1, 7200, .inl z31_6_537)), (a_16, .inl (cy 1, 3, .inl g5004)), (a_17, .inl (cy 1, 3, .inl z265_8_5034))] H → va_D A [(a_0, .inr (12, [.int i_1, .ref a_1, .ref a_2, .ref a_3, .ref a_4, .ref a_5, .int i_2, .int i_3, .int i_4, .int i_5, .int i_6, .long j_0, .int i_7, .int i_8, .int i_9, .int i_10, .ref a_6, .ref a_7, .ref a_8, .ref a_9, .ref a_10, .ref a_11, .ref a_12, .ref a_13, .ref a_14, .ref a_15, .ref a_16, .ref a_17, .ref a_18, .int i_11, .int i_12, .int i_13, .int i_14, .int i_15, .int i_16, .ref a_19, .int i_17, .ref a_20])), (a_6, .inl (cy 1, 5, .inl (mm_g [i_18, i_19, i_20, i_21, i_22]))), (a_7, .inl (cy 1, 30, .inl (mm_g [i_23, i_24, i_25, i_26, i_27, i_28, i_29, i_30, i_31, i_32, i_33, i_34, i_35, i_36, i_37, i_38, i_39, i_40, i_41, i_42, i_43, i_44, i_45, i_46, i_47, i_48, i_49, i_50, i_51, i_52]))), (a_9, .inl (cy 1, 15, .inl f_0)), (a_10, .inl (cy 1, 1050, .inl f_1)), (a_13, .inl (cy 1, 450, .inl f_2)), (a_15, .inl (cy 1, 7200, .inl z31_6_537)), (a_16, .inl (cy 1, 3, .inl g5004)), (a_17, .inl (cy 1, 3, .inl z265_8_5034))] → va_S A s.heap H locs → ∀ (ls : Array Slot), lv_has ls 6 [(2, .int 0), (0, .ref a_0), (1, .int i_0)] → W p l e R s m args below meth c H locs 0 0 Q (F0 m 265 ls []) := by
                    intro n
                    induction n with
                    | zero => intro z265_8_5034 rz265_8_5034 w5035 w5036 hm; exact absurd hm (Nat.not_lt_zero _)
                    | succ n ih265 =>
                      intro z265_8_5034 rz265_8_5034 w5035 w5036 hm265 H locs hP hD hS ls hl
                      refine lv_aload_n hx hb dX12_laysLand_265 rfl (lv_at hl 1 rfl) ?_
                      refine lv_iload_n hx hb dX12_laysLand_266 rfl (lv_at hl 2 rfl) ?_
                      refine lv_aload_n hx hb dX12_laysLand_267 rfl (lv_at hl 1 rfl) ?_
                      refine va_get (D := G) (ci := 12) (v := .ref a_17) (C := RX12) (T := TX12) (N := 38) hx hb hts (mm_i inlX12) hown hK.1 hP 0 rfl rfl 27 (by decide) (mm_h hts mm_w159) (fun _ h9 => h9) rfl dX12_laysLand_268 ?_
                      refine lv_iload_n hx hb dX12_laysLand_271 rfl (lv_at hl 2 rfl) ?_
                      refine va_iald hx hb hK.1 hP 8 1 rfl rfl (mm_in h0 (by decide)) dX12_laysLand_272 ?_
                      refine lv_topi (fun v5038 ev5038 => ?_)
                      have rv5038 : mm_rg v5038 0 210 := mm_eqv ev5038 (rz265_8_5034 _)
                      have q5039 : mm_rg v5038 1 210 := mm_lf_ld w5035 ev5038 rv5038
                      refine mm_finir (va_runV (As := [.int i_0, .int v5038]) (rest := []) ⟨hx, hb, hml, hown, hts⟩ (M123_X12_isRound l G cy H.size a_0 i_0 v5038 i_1 a_1 a_2 a_3 a_4 a_5 i_2 i_3 i_4 i_5 i_6 j_0 i_7 i_8 i_9 i_10 a_6 a_7 a_8 a_9 a_10 a_11 a_12 a_13 a_14 a_15 a_16 a_17 a_18 i_11 i_12 i_13 i_14 i_15 i_16 a_19 i_17 a_20 i_18 i_19 i_20 i_21 i_22 i_23 i_24 i_25 i_26 i_27 i_28 i_29 i_30 i_31 i_32 i_33 i_34 i_35 i_36 i_37 i_38 i_39 i_40 i_41 i_42 i_43 i_44 i_45 i_46 i_47 i_48 i_49 i_50 i_51 i_52 z31_6_537 g5004 h0 q5039 (mm_wk q2 (by decide)) h2 h3 h4 h5 h6 h7 h8 (mm_wk q1 (by decide)) h10 h11 h12 h13 h14 h15 h16 h17 h18 h19 h20 h21 h22 h23 h24 h25 h26 h27 h28 h29 h30 h31 h32 h33 h34 h35 rz31_6_537 rg5004 h44 h47 h50 h53 (mm_f1_u eg5004 mm_k1 (by decide))) (cwV 2 hts (mm_gV mm_w709 mm_w710 mm_w711 mm_w5 mm_w712) rfl rfl rfl hd_X12_isRound ⟨by rw [hRf]; exact Nat.le_of_ble_eq_true rfl, by rw [hRl]; exact Nat.le_of_ble_eq_true rfl⟩) (mm_preV hK hZ hS hA hP hD [0, 1, 2, 6, 7] rfl rfl 0 rfl rfl rfl) rfl rfl hl.1 rfl (lv_room (Nat.le_of_ble_eq_true rfl)) dX12_laysLand_273 ⟨by rw [hRc]; exact Nat.le_of_ble_eq_true rfl, by rw [hRs]; exact Nat.le_of_ble_eq_true rfl⟩) hP hD hS hA [0, 1, 2, 6, 7] rfl (fun _ => rfl) ?_
                      clear hP hD hS
                      clear H locs
                      intro v5040 _u H locs hw hP hD hS
                      rcases hw with ⟨rfl, w5041⟩ | rfl
                      · have q5042 : mm_rg v5038 1 209 := mm_nr_d w5041 w5035 ev5038 rg5004 q5039 (by decide)
                        refine lv_if_ne (tgt := 292) hx hb dX12_laysLand_276 (by decide) (fun c5043 => ?_) (fun c5043 => ?_)
                        · have q5044 := mm_neL (lo := 1) (mm_ne c5043) mm_k0 mm_k0 (by decide) (by decide)
                          exact mm_no q5044 (by decide)
                        · refine lv_aload_n hx hb dX12_laysLand_279 rfl (lv_at hl 1 rfl) ?_
                          refine va_get (D := G) (ci := 12) (v := .ref a_17) (C := RX12) (T := TX12) (N := 38) hx hb hts (mm_i inlX12) hown hK.1 hP 0 rfl rfl 27 (by decide) (mm_h hts mm_w159) (fun _ h9 => h9) rfl dX12_laysLand_280 ?_
                          refine lv_iload_n hx hb dX12_laysLand_283 rfl (lv_at hl 2 rfl) ?_
                          refine lv_dup2_11 hx hb dX12_laysLand_284 rfl rfl ?_
                          refine va_iald hx hb hK.1 hP 8 1 rfl rfl (mm_in h0 (by decide)) dX12_laysLand_285 ?_
                          refine lv_topi (fun v5045 ev5045 => ?_)
                          have rv5045 : mm_rg v5045 0 210 := mm_eqv ev5045 (rz265_8_5034 _)
                          have q5046 : mm_rg v5045 1 210 := mm_lf_ld w5035 ev5045 rv5045
                          obtain rfl : v5038 = v5045 := ev5038.trans ev5045.symm
                          refine lv_iconst (v := 1) hx hb dX12_laysLand_286 (by decide) ?_
                          refine lv_iadd hx hb dX12_laysLand_287 ?_
                          refine lv_topi (fun v5047 ev5047 => ?_)
                          have rv5047 : mm_rg v5047 2 210 := mm_add ev5047 q5042 mm_k1 (by decide) (by decide)
                          have tv5047 := mm_addEc ev5047 q5042 mm_k1 (by decide) (k := 1) (by decide)
                          refine va_iast hx hb hK.1 hP hD hS 8 1 rfl rfl (mm_in h0 (by decide)) dX12_laysLand_288 ?_
                          clear hP hD hS
                          clear H locs
                          obtain ⟨g5048, eg5048⟩ : ∃ z : Nat → Int32, z = upd z265_8_5034 i_0.toNatClampNeg v5047 := ⟨_, rfl⟩
                          rw [← eg5048]
                          intro H locs (hP : va_P G vwCl [(a_0, .inr (12, [.int i_1, .ref a_1, .ref a_2, .ref a_3, .ref a_4, .ref a_5, .int i_2, .int i_3, .int i_4, .int i_5, .int i_6, .long j_0, .int i_7, .int i_8, .int i_9, .int i_10, .ref a_6, .ref a_7, .ref a_8, .ref a_9, .ref a_10, .ref a_11, .ref a_12, .ref a_13, .ref a_14, .ref a_15, .ref a_16, .ref a_17, .ref a_18, .int i_11, .int i_12, .int i_13, .int i_14, .int i_15, .int i_16, .ref a_19, .int i_17, .ref a_20])), (a_6, .inl (cy 1, 5, .inl (mm_g [i_18, i_19, i_20, i_21, i_22]))), (a_7, .inl (cy 1, 30, .inl (mm_g [i_23, i_24, i_25, i_26, i_27, i_28, i_29, i_30, i_31, i_32, i_33, i_34, i_35, i_36, i_37, i_38, i_39, i_40, i_41, i_42, i_43, i_44, i_45, i_46, i_47, i_48, i_49, i_50, i_51, i_52]))), (a_9, .inl (cy 1, 15, .inl f_0)), (a_10, .inl (cy 1, 1050, .inl f_1)), (a_13, .inl (cy 1, 450, .inl f_2)), (a_15, .inl (cy 1, 7200, .inl z31_6_537)), (a_16, .inl (cy 1, 3, .inl g5004)), (a_17, .inl (cy 1, 3, .inl g5048))] H) (hD : va_D A [(a_0, .inr (12, [.int i_1, .ref a_1, .ref a_2, .ref a_3, .ref a_4, .ref a_5, .int i_2, .int i_3, .int i_4, .int i_5, .int i_6, .long j_0, .int i_7, .int i_8, .int i_9, .int i_10, .ref a_6, .ref a_7, .ref a_8, .ref a_9, .ref a_10, .ref a_11, .ref a_12, .ref a_13, .ref a_14, .ref a_15, .ref a_16, .ref a_17, .ref a_18, .int i_11, .int i_12, .int i_13, .int i_14, .int i_15, .int i_16, .ref a_19, .int i_17, .ref a_20])), (a_6, .inl (cy 1, 5, .inl (mm_g [i_18, i_19, i_20, i_21, i_22]))), (a_7, .inl (cy 1, 30, .inl (mm_g [i_23, i_24, i_25, i_26, i_27, i_28, i_29, i_30, i_31, i_32, i_33, i_34, i_35, i_36, i_37, i_38, i_39, i_40, i_41, i_42, i_43, i_44, i_45, i_46, i_47, i_48, i_49, i_50, i_51, i_52]))), (a_9, .inl (cy 1, 15, .inl f_0)), (a_10, .inl (cy 1, 1050, .inl f_1)), (a_13, .inl (cy 1, 450, .inl f_2)), (a_15, .inl (cy 1, 7200, .inl z31_6_537)), (a_16, .inl (cy 1, 3, .inl g5004)), (a_17, .inl (cy 1, 3, .inl g5048))]) hS
                          have rg5048 : mm_ar g5048 0 210 := by rw [eg5048]; exact mm_ar_upd (mm_ar_wk rz265_8_5034 (by decide)) (mm_wk rv5047 (by decide)) _
                          refine lv_goto (tgt := 265) hx hb dX12_laysLand_289 (by decide) ?_
                          exact ih265 g5048 rg5048 (mm_lf_s w5035 w5041 ev5038 eg5048 tv5047) (mm_xl_u w5036 eg5048) (mm_lfM hm265 w5035 w5041 ev5038 eg5048 tv5047) H locs hP hD hS ls (lv_sub hl [0, 1, 2] rfl)
                      · refine lv_if_ne (tgt := 292) hx hb dX12_laysLand_276 (by decide) (fun c5049 => ?_) (fun c5049 => ?_)
                        · have w5050 : mm_ll f_3 f_4 f_5 z31_6_537 g5004 z265_8_5034 i_0 i_25 := (mm_ll_one (mm_xl_u (mm_xl_r _ _) eg5004) w5036 w5035 (mm_td_0 w538) eg5004)
                          clear ih265 ih31 ih2
                          subst hAe
                          rw [hQ]
                          exact W.vret hx hb hr (fun t ht hW => ⟨⟨(z31_6_537, g5004, z265_8_5034), rfl, ⟨rz31_6_537, rg5004, rz265_8_5034, w5050⟩, by rw [ht]; exact hP, hK.warm hW, hD⟩, hS.F ht⟩) hS.2.2 dX12_laysLand_292
                        · exact mm_eqN c5049.symm mm_k0 mm_k1 (by decide)
                  exact L265_5036 _ g5012 rg5012 (mm_lf_0 eg5012 (mm_f1_u eg5004 mm_k1 (by decide))) (mm_xl_u (mm_xl_r _ _) eg5012) (Nat.lt_succ_self _) H locs hP hD hS ls (lv_sub hl [0, 1, 2] rfl)
                · have q5051 := mm_ltL (h := 0) (mm_nle c5011) mm_k1 mm_k1 (by decide)
                  exact mm_no q5051 (by decide)
            · have q5052 := mm_ltL (h := 29) (mm_nle c540) rx31_2_536 h11 (by decide)
              have q5053 := mm_ltR (lo := 1) (mm_nle c540) rx31_2_536 h11 (by decide)
              refine lv_aload_n hx hb dX12_laysLand_41 rfl (lv_at hl 1 rfl) ?_
              refine va_get (D := G) (ci := 12) (v := .ref a_13) (C := RX12) (T := TX12) (N := 38) hx hb hts (mm_i inlX12) hown hK.1 hP 0 rfl rfl 23 (by decide) (mm_h hts mm_w155) (fun _ h9 => h9) rfl dX12_laysLand_42 ?_
              refine lv_iconst (v := 3) hx hb dX12_laysLand_45 (by decide) ?_
              refine lv_iload_n hx hb dX12_laysLand_46 rfl (lv_at hl 0 rfl) ?_
              refine lv_imul hx hb dX12_laysLand_47 ?_
              refine lv_topi (fun v5054 ev5054 => ?_)
              have rv5054 : mm_rg v5054 0 87 := mm_mul ev5054 mm_k3 q5052 (by decide) (by decide)
              have tv5054 := mm_mulEc ev5054 mm_k3 q5052 (by decide) (k := 3) (by decide)
              refine va_iald hx hb hK.1 hP 5 1 rfl rfl (mm_in rv5054 (by decide)) dX12_laysLand_48 ?_
              refine lv_topi (fun v5055 ev5055 => ?_)
              have rv5055 : mm_rg v5055 (-1) 99 := mm_eqv ev5055 (h38 _)
              refine lv_iload_n hx hb dX12_laysLand_49 rfl (lv_at hl 2 rfl) ?_
              refine lv_icmp_eq (tgt := 56) hx hb dX12_laysLand_50 (by decide) (fun c5056 => ?_) (fun c5056 => ?_)
              · have q5057 := mm_eqI (lo := 0) (hi := 2) c5056 rv5055 h0 (by decide)
                refine lv_sipush (v := 2400) hx hb dX12_laysLand_56 (by decide) ?_
                refine lv_iload_n hx hb dX12_laysLand_59 rfl (lv_at hl 2 rfl) ?_
                refine lv_imul hx hb dX12_laysLand_60 ?_
                refine lv_topi (fun v5058 ev5058 => ?_)
                have rv5058 : mm_rg v5058 0 4800 := mm_mul ev5058 mm_k2400 h0 (by decide) (by decide)
                have tv5058 := mm_mulEc ev5058 mm_k2400 h0 (by decide) (k := 2400) (by decide)
                refine lv_aload_n hx hb dX12_laysLand_61 rfl (lv_at hl 1 rfl) ?_
                refine va_get (D := G) (ci := 12) (v := .ref a_13) (C := RX12) (T := TX12) (N := 38) hx hb hts (mm_i inlX12) hown hK.1 hP 0 rfl rfl 23 (by decide) (mm_h hts mm_w155) (fun _ h9 => h9) rfl dX12_laysLand_62 ?_
                refine lv_iconst (v := 3) hx hb dX12_laysLand_65 (by decide) ?_
                refine lv_iload_n hx hb dX12_laysLand_66 rfl (lv_at hl 0 rfl) ?_
                refine lv_imul hx hb dX12_laysLand_67 ?_
                refine lv_topi (fun v5059 ev5059 => ?_)
                have rv5059 : mm_rg v5059 0 87 := mm_mul ev5059 mm_k3 q5052 (by decide) (by decide)
                have tv5059 := mm_mulEc ev5059 mm_k3 q5052 (by decide) (k := 3) (by decide)
                refine lv_iconst (v := 1) hx hb dX12_laysLand_68 (by decide) ?_
                refine lv_iadd hx hb dX12_laysLand_69 ?_
                refine lv_topi (fun v5060 ev5060 => ?_)
                have rv5060 : mm_rg v5060 1 88 := mm_add ev5060 rv5059 mm_k1 (by decide) (by decide)
                have tv5060 := mm_addEc ev5060 rv5059 mm_k1 (by decide) (k := 1) (by decide)
                refine va_iald hx hb hK.1 hP 5 1 rfl rfl (mm_in rv5060 (by decide)) dX12_laysLand_70 ?_
                refine lv_topi (fun v5061 ev5061 => ?_)
                have rv5061 : mm_rg v5061 (-1) 99 := mm_eqv ev5061 (h38 _)
                have w5062 := mm_acs_w1 h43 (mm_nle c540) ev5055 (by have := tv5054; omega) q5057 ev5061 (by have := tv5060; have := tv5059; omega) q5052 (by decide)
                have q5063 : mm_rg v5061 0 9 := mm_of2 w5062 h8
                refine lv_iadd hx hb dX12_laysLand_71 ?_
                refine lv_topi (fun v5064 ev5064 => ?_)
                have rv5064 : mm_rg v5064 0 4809 := mm_add ev5064 rv5058 q5063 (by decide) (by decide)
                have tv5064 := mm_addE ev5064 rv5058 q5063 (by decide)
                refine lv_istore_n (lv' := [(3, .int v5064), (2, .int x31_2_536), (0, .ref a_0), (1, .int i_0)]) hx hb dX12_laysLand_72 rfl hl (by decide) rfl ?_
                clear hl
                clear ls
                intro ls hl
                refine lv_sipush (v := 2400) hx hb dX12_laysLand_73 (by decide) ?_
                refine lv_iload_n hx hb dX12_laysLand_76 rfl (lv_at hl 3 rfl) ?_
                refine lv_imul hx hb dX12_laysLand_77 ?_
                refine lv_topi (fun v5065 ev5065 => ?_)
                have rv5065 : mm_rg v5065 0 4800 := mm_mul ev5065 mm_k2400 h0 (by decide) (by decide)
                have tv5065 := mm_mulEc ev5065 mm_k2400 h0 (by decide) (k := 2400) (by decide)
                refine lv_aload_n hx hb dX12_laysLand_78 rfl (lv_at hl 2 rfl) ?_
                refine va_get (D := G) (ci := 12) (v := .ref a_13) (C := RX12) (T := TX12) (N := 38) hx hb hts (mm_i inlX12) hown hK.1 hP 0 rfl rfl 23 (by decide) (mm_h hts mm_w155) (fun _ h9 => h9) rfl dX12_laysLand_79 ?_
                refine lv_iconst (v := 3) hx hb dX12_laysLand_82 (by decide) ?_
                refine lv_iload_n hx hb dX12_laysLand_83 rfl (lv_at hl 1 rfl) ?_
                refine lv_imul hx hb dX12_laysLand_84 ?_
                refine lv_topi (fun v5066 ev5066 => ?_)
                have rv5066 : mm_rg v5066 0 87 := mm_mul ev5066 mm_k3 q5052 (by decide) (by decide)
                have tv5066 := mm_mulEc ev5066 mm_k3 q5052 (by decide) (k := 3) (by decide)
                refine lv_iconst (v := 2) hx hb dX12_laysLand_85 (by decide) ?_
                refine lv_iadd hx hb dX12_laysLand_86 ?_
                refine lv_topi (fun v5067 ev5067 => ?_)
                have rv5067 : mm_rg v5067 2 89 := mm_add ev5067 rv5066 mm_k2 (by decide) (by decide)
                have tv5067 := mm_addEc ev5067 rv5066 mm_k2 (by decide) (k := 2) (by decide)
                refine va_iald hx hb hK.1 hP 5 1 rfl rfl (mm_in rv5067 (by decide)) dX12_laysLand_87 ?_
                refine lv_topi (fun v5068 ev5068 => ?_)
                have rv5068 : mm_rg v5068 (-1) 99 := mm_eqv ev5068 (h38 _)
                have q5069 : mm_rg v5068 0 99 := mm_acs_2 h43 (mm_nle c540) ev5068 (by have := tv5067; have := tv5066; omega) q5052 rv5068 (by decide)
                have w5070 := mm_acs_w2 h43 (mm_nle c540) ev5055 (by have := tv5054; omega) q5057 ev5068 (by have := tv5067; have := tv5066; omega) q5052 (by decide)
                have q5071 : mm_rg v5068 0 9 := mm_of2 w5070 h8
                refine lv_iadd hx hb dX12_laysLand_88 ?_
                refine lv_topi (fun v5072 ev5072 => ?_)
                have rv5072 : mm_rg v5072 0 4809 := mm_add ev5072 rv5065 q5071 (by decide) (by decide)
                have tv5072 := mm_addE ev5072 rv5065 q5071 (by decide)
                refine lv_istore (lv' := [(4, .int v5072), (3, .int v5064), (2, .int x31_2_536), (0, .ref a_0), (1, .int i_0)]) hx hb dX12_laysLand_89 hl (by decide) rfl ?_
                clear hl
                clear ls
                intro ls hl
                refine lv_aload_n hx hb dX12_laysLand_91 rfl (lv_at hl 3 rfl) ?_
                refine va_get (D := G) (ci := 12) (v := .ref a_15) (C := RX12) (T := TX12) (N := 38) hx hb hts (mm_i inlX12) hown hK.1 hP 0 rfl rfl 25 (by decide) (mm_h hts mm_w157) (fun _ h9 => h9) rfl dX12_laysLand_92 ?_
                refine lv_iload_n hx hb dX12_laysLand_95 rfl (lv_at hl 1 rfl) ?_
                refine va_iald hx hb hK.1 hP 6 1 rfl rfl (mm_in rv5064 (by decide)) dX12_laysLand_96 ?_
                refine lv_topi (fun v5073 ev5073 => ?_)
                have rv5073 : mm_rg v5073 0 9 := mm_eqv ev5073 (rz31_6_537 _)
                refine lv_istore (lv' := [(5, .int v5073), (4, .int v5072), (3, .int v5064), (2, .int x31_2_536), (0, .ref a_0), (1, .int i_0)]) hx hb dX12_laysLand_97 hl (by decide) rfl ?_
                clear hl
                clear ls
                intro ls hl
                refine lv_aload_n hx hb dX12_laysLand_99 rfl (lv_at hl 4 rfl) ?_
                refine va_get (D := G) (ci := 12) (v := .ref a_15) (C := RX12) (T := TX12) (N := 38) hx hb hts (mm_i inlX12) hown hK.1 hP 0 rfl rfl 25 (by decide) (mm_h hts mm_w157) (fun _ h9 => h9) rfl dX12_laysLand_100 ?_
                refine lv_iload_n hx hb dX12_laysLand_103 rfl (lv_at hl 2 rfl) ?_
                refine lv_aload_n hx hb dX12_laysLand_104 rfl (lv_at hl 4 rfl) ?_
                refine va_get (D := G) (ci := 12) (v := .ref a_15) (C := RX12) (T := TX12) (N := 38) hx hb hts (mm_i inlX12) hown hK.1 hP 0 rfl rfl 25 (by decide) (mm_h hts mm_w157) (fun _ h9 => h9) rfl dX12_laysLand_105 ?_
                refine lv_iload hx hb dX12_laysLand_108 (lv_at hl 1 rfl) ?_
                refine va_iald hx hb hK.1 hP 6 1 rfl rfl (mm_in rv5072 (by decide)) dX12_laysLand_110 ?_
                refine lv_topi (fun v5074 ev5074 => ?_)
                have rv5074 : mm_rg v5074 0 9 := mm_eqv ev5074 (rz31_6_537 _)
                refine va_iast hx hb hK.1 hP hD hS 6 1 rfl rfl (mm_in rv5064 (by decide)) dX12_laysLand_111 ?_
                clear hP hD hS
                clear H locs
                obtain ⟨g5075, eg5075⟩ : ∃ z : Nat → Int32, z = upd z31_6_537 v5064.toNatClampNeg v5074 := ⟨_, rfl⟩
                rw [← eg5075]
                intro H locs (hP : va_P G vwCl [(a_0, .inr (12, [.int i_1, .ref a_1, .ref a_2, .ref a_3, .ref a_4, .ref a_5, .int i_2, .int i_3, .int i_4, .int i_5, .int i_6, .long j_0, .int i_7, .int i_8, .int i_9, .int i_10, .ref a_6, .ref a_7, .ref a_8, .ref a_9, .ref a_10, .ref a_11, .ref a_12, .ref a_13, .ref a_14, .ref a_15, .ref a_16, .ref a_17, .ref a_18, .int i_11, .int i_12, .int i_13, .int i_14, .int i_15, .int i_16, .ref a_19, .int i_17, .ref a_20])), (a_6, .inl (cy 1, 5, .inl (mm_g [i_18, i_19, i_20, i_21, i_22]))), (a_7, .inl (cy 1, 30, .inl (mm_g [i_23, i_24, i_25, i_26, i_27, i_28, i_29, i_30, i_31, i_32, i_33, i_34, i_35, i_36, i_37, i_38, i_39, i_40, i_41, i_42, i_43, i_44, i_45, i_46, i_47, i_48, i_49, i_50, i_51, i_52]))), (a_9, .inl (cy 1, 15, .inl f_0)), (a_10, .inl (cy 1, 1050, .inl f_1)), (a_13, .inl (cy 1, 450, .inl f_2)), (a_15, .inl (cy 1, 7200, .inl g5075)), (a_16, .inl (cy 1, 3, .inl f_4)), (a_17, .inl (cy 1, 3, .inl f_5))] H) (hD : va_D A [(a_0, .inr (12, [.int i_1, .ref a_1, .ref a_2, .ref a_3, .ref a_4, .ref a_5, .int i_2, .int i_3, .int i_4, .int i_5, .int i_6, .long j_0, .int i_7, .int i_8, .int i_9, .int i_10, .ref a_6, .ref a_7, .ref a_8, .ref a_9, .ref a_10, .ref a_11, .ref a_12, .ref a_13, .ref a_14, .ref a_15, .ref a_16, .ref a_17, .ref a_18, .int i_11, .int i_12, .int i_13, .int i_14, .int i_15, .int i_16, .ref a_19, .int i_17, .ref a_20])), (a_6, .inl (cy 1, 5, .inl (mm_g [i_18, i_19, i_20, i_21, i_22]))), (a_7, .inl (cy 1, 30, .inl (mm_g [i_23, i_24, i_25, i_26, i_27, i_28, i_29, i_30, i_31, i_32, i_33, i_34, i_35, i_36, i_37, i_38, i_39, i_40, i_41, i_42, i_43, i_44, i_45, i_46, i_47, i_48, i_49, i_50, i_51, i_52]))), (a_9, .inl (cy 1, 15, .inl f_0)), (a_10, .inl (cy 1, 1050, .inl f_1)), (a_13, .inl (cy 1, 450, .inl f_2)), (a_15, .inl (cy 1, 7200, .inl g5075)), (a_16, .inl (cy 1, 3, .inl f_4)), (a_17, .inl (cy 1, 3, .inl f_5))]) hS
                have rg5075 : mm_ar g5075 0 9 := by rw [eg5075]; exact mm_ar_upd (mm_ar_wk rz31_6_537 (by decide)) (mm_wk rv5074 (by decide)) _
                refine lv_aload_n hx hb dX12_laysLand_112 rfl (lv_at hl 4 rfl) ?_
                refine va_get (D := G) (ci := 12) (v := .ref a_15) (C := RX12) (T := TX12) (N := 38) hx hb hts (mm_i inlX12) hown hK.1 hP 0 rfl rfl 25 (by decide) (mm_h hts mm_w157) (fun _ h9 => h9) rfl dX12_laysLand_113 ?_
                refine lv_iload hx hb dX12_laysLand_116 (lv_at hl 1 rfl) ?_
                refine lv_iload hx hb dX12_laysLand_118 (lv_at hl 0 rfl) ?_
                refine va_iast hx hb hK.1 hP hD hS 6 1 rfl rfl (mm_in rv5072 (by decide)) dX12_laysLand_120 ?_
                clear hP hD hS
                clear H locs
                obtain ⟨g5076, eg5076⟩ : ∃ z : Nat → Int32, z = upd g5075 v5072.toNatClampNeg v5073 := ⟨_, rfl⟩
                rw [← eg5076]
                intro H locs (hP : va_P G vwCl [(a_0, .inr (12, [.int i_1, .ref a_1, .ref a_2, .ref a_3, .ref a_4, .ref a_5, .int i_2, .int i_3, .int i_4, .int i_5, .int i_6, .long j_0, .int i_7, .int i_8, .int i_9, .int i_10, .ref a_6, .ref a_7, .ref a_8, .ref a_9, .ref a_10, .ref a_11, .ref a_12, .ref a_13, .ref a_14, .ref a_15, .ref a_16, .ref a_17, .ref a_18, .int i_11, .int i_12, .int i_13, .int i_14, .int i_15, .int i_16, .ref a_19, .int i_17, .ref a_20])), (a_6, .inl (cy 1, 5, .inl (mm_g [i_18, i_19, i_20, i_21, i_22]))), (a_7, .inl (cy 1, 30, .inl (mm_g [i_23, i_24, i_25, i_26, i_27, i_28, i_29, i_30, i_31, i_32, i_33, i_34, i_35, i_36, i_37, i_38, i_39, i_40, i_41, i_42, i_43, i_44, i_45, i_46, i_47, i_48, i_49, i_50, i_51, i_52]))), (a_9, .inl (cy 1, 15, .inl f_0)), (a_10, .inl (cy 1, 1050, .inl f_1)), (a_13, .inl (cy 1, 450, .inl f_2)), (a_15, .inl (cy 1, 7200, .inl g5076)), (a_16, .inl (cy 1, 3, .inl f_4)), (a_17, .inl (cy 1, 3, .inl f_5))] H) (hD : va_D A [(a_0, .inr (12, [.int i_1, .ref a_1, .ref a_2, .ref a_3, .ref a_4, .ref a_5, .int i_2, .int i_3, .int i_4, .int i_5, .int i_6, .long j_0, .int i_7, .int i_8, .int i_9, .int i_10, .ref a_6, .ref a_7, .ref a_8, .ref a_9, .ref a_10, .ref a_11, .ref a_12, .ref a_13, .ref a_14, .ref a_15, .ref a_16, .ref a_17, .ref a_18, .int i_11, .int i_12, .int i_13, .int i_14, .int i_15, .int i_16, .ref a_19, .int i_17, .ref a_20])), (a_6, .inl (cy 1, 5, .inl (mm_g [i_18, i_19, i_20, i_21, i_22]))), (a_7, .inl (cy 1, 30, .inl (mm_g [i_23, i_24, i_25, i_26, i_27, i_28, i_29, i_30, i_31, i_32, i_33, i_34, i_35, i_36, i_37, i_38, i_39, i_40, i_41, i_42, i_43, i_44, i_45, i_46, i_47, i_48, i_49, i_50, i_51, i_52]))), (a_9, .inl (cy 1, 15, .inl f_0)), (a_10, .inl (cy 1, 1050, .inl f_1)), (a_13, .inl (cy 1, 450, .inl f_2)), (a_15, .inl (cy 1, 7200, .inl g5076)), (a_16, .inl (cy 1, 3, .inl f_4)), (a_17, .inl (cy 1, 3, .inl f_5))]) hS
                have rg5076 : mm_ar g5076 0 9 := by rw [eg5076]; exact mm_ar_upd (mm_ar_wk rg5075 (by decide)) (mm_wk rv5073 (by decide)) _
                obtain ⟨v5077, ev5077⟩ : ∃ y : Int32, y = x31_2_536 + 1 := ⟨_, rfl⟩
                refine lv_iinc (v := v5077) (lv' := [(2, .int v5077), (5, .int v5073), (4, .int v5072), (3, .int v5064), (0, .ref a_0), (1, .int i_0)]) hx hb dX12_laysLand_121 hl (k := 3) rfl (by rw [ev5077]; rfl) (by decide) rfl ?_
                clear hl
                clear ls
                intro ls hl
                have rv5077 : mm_rg v5077 1 30 := mm_add ev5077 q5052 mm_k1 (by decide) (by decide)
                have tv5077 := mm_addEc ev5077 q5052 mm_k1 (by decide) (k := 1) (by decide)
                refine lv_goto (tgt := 31) hx hb dX12_laysLand_124 (by decide) ?_
                exact ih31 v5077 g5076 (mm_wk rv5077 (by decide)) rg5076 (mm_tp_s w538 eg5075 eg5076 ev5073 ev5074 (by have := tv5064; have := tv5058; omega) (by have := tv5072; have := tv5065; omega) w5062.2 w5070.2 q5063 q5071 h8 h0 (by decide)) (mm_mu hm31 tv5077 (by decide) (rv5077).2 (by decide)) H locs hP hD hS ls (lv_sub hl [0, 4, 5] rfl)
              · refine lv_goto (tgt := 121) hx hb dX12_laysLand_53 (by decide) ?_
                obtain ⟨v5078, ev5078⟩ : ∃ y : Int32, y = x31_2_536 + 1 := ⟨_, rfl⟩
                refine lv_iinc (v := v5078) (lv' := [(2, .int v5078), (0, .ref a_0), (1, .int i_0)]) hx hb dX12_laysLand_121 hl (k := 0) rfl (by rw [ev5078]; rfl) (by decide) rfl ?_
                clear hl
                clear ls
                intro ls hl
                have rv5078 : mm_rg v5078 1 30 := mm_add ev5078 q5052 mm_k1 (by decide) (by decide)
                have tv5078 := mm_addEc ev5078 q5052 mm_k1 (by decide) (k := 1) (by decide)
                refine lv_goto (tgt := 31) hx hb dX12_laysLand_124 (by decide) ?_
                exact ih31 v5078 z31_6_537 (mm_wk rv5078 (by decide)) rz31_6_537 w538 (mm_mu hm31 tv5078 (by decide) (rv5078).2 (by decide)) H locs hP hD hS ls (lv_sub hl [0, 1, 2] rfl)
        exact L31_538 _ 0 z2_6_142 (mm_wk mm_k0 (by decide)) rz2_6_142 (mm_tp_0 w143 t148 (mm_le c149) h8 h0 (by decide)) (Nat.lt_succ_self _) H locs hP hD hS ls (lv_sub hl [0, 1, 2] rfl)
      · have q5079 := mm_ltL (h := 9) (mm_nle c149) rx2_2_141 w146 (by decide)
        refine lv_aload_n hx hb dX12_laysLand_10 rfl (lv_at hl 1 rfl) ?_
        refine va_get (D := G) (ci := 12) (v := .ref a_15) (C := RX12) (T := TX12) (N := 38) hx hb hts (mm_i inlX12) hown hK.1 hP 0 rfl rfl 25 (by decide) (mm_h hts mm_w157) (fun _ h9 => h9) rfl dX12_laysLand_11 ?_
        refine lv_sipush (v := 2400) hx hb dX12_laysLand_14 (by decide) ?_
        refine lv_iload_n hx hb dX12_laysLand_17 rfl (lv_at hl 2 rfl) ?_
        refine lv_imul hx hb dX12_laysLand_18 ?_
        refine lv_topi (fun v5080 ev5080 => ?_)
        have rv5080 : mm_rg v5080 0 4800 := mm_mul ev5080 mm_k2400 h0 (by decide) (by decide)
        have tv5080 := mm_mulEc ev5080 mm_k2400 h0 (by decide) (k := 2400) (by decide)
        refine lv_iload_n hx hb dX12_laysLand_19 rfl (lv_at hl 0 rfl) ?_
        refine lv_iadd hx hb dX12_laysLand_20 ?_
        refine lv_topi (fun v5081 ev5081 => ?_)
        have rv5081 : mm_rg v5081 0 4809 := mm_add ev5081 rv5080 q5079 (by decide) (by decide)
        have tv5081 := mm_addE ev5081 rv5080 q5079 (by decide)
        refine lv_iload_n hx hb dX12_laysLand_21 rfl (lv_at hl 0 rfl) ?_
        refine va_iast hx hb hK.1 hP hD hS 6 1 rfl rfl (mm_in rv5081 (by decide)) dX12_laysLand_22 ?_
        clear hP hD hS
        clear H locs
        obtain ⟨g5082, eg5082⟩ : ∃ z : Nat → Int32, z = upd z2_6_142 v5081.toNatClampNeg x2_2_141 := ⟨_, rfl⟩
        rw [← eg5082]
        intro H locs (hP : va_P G vwCl [(a_0, .inr (12, [.int i_1, .ref a_1, .ref a_2, .ref a_3, .ref a_4, .ref a_5, .int i_2, .int i_3, .int i_4, .int i_5, .int i_6, .long j_0, .int i_7, .int i_8, .int i_9, .int i_10, .ref a_6, .ref a_7, .ref a_8, .ref a_9, .ref a_10, .ref a_11, .ref a_12, .ref a_13, .ref a_14, .ref a_15, .ref a_16, .ref a_17, .ref a_18, .int i_11, .int i_12, .int i_13, .int i_14, .int i_15, .int i_16, .ref a_19, .int i_17, .ref a_20])), (a_6, .inl (cy 1, 5, .inl (mm_g [i_18, i_19, i_20, i_21, i_22]))), (a_7, .inl (cy 1, 30, .inl (mm_g [i_23, i_24, i_25, i_26, i_27, i_28, i_29, i_30, i_31, i_32, i_33, i_34, i_35, i_36, i_37, i_38, i_39, i_40, i_41, i_42, i_43, i_44, i_45, i_46, i_47, i_48, i_49, i_50, i_51, i_52]))), (a_9, .inl (cy 1, 15, .inl f_0)), (a_10, .inl (cy 1, 1050, .inl f_1)), (a_13, .inl (cy 1, 450, .inl f_2)), (a_15, .inl (cy 1, 7200, .inl g5082)), (a_16, .inl (cy 1, 3, .inl f_4)), (a_17, .inl (cy 1, 3, .inl f_5))] H) (hD : va_D A [(a_0, .inr (12, [.int i_1, .ref a_1, .ref a_2, .ref a_3, .ref a_4, .ref a_5, .int i_2, .int i_3, .int i_4, .int i_5, .int i_6, .long j_0, .int i_7, .int i_8, .int i_9, .int i_10, .ref a_6, .ref a_7, .ref a_8, .ref a_9, .ref a_10, .ref a_11, .ref a_12, .ref a_13, .ref a_14, .ref a_15, .ref a_16, .ref a_17, .ref a_18, .int i_11, .int i_12, .int i_13, .int i_14, .int i_15, .int i_16, .ref a_19, .int i_17, .ref a_20])), (a_6, .inl (cy 1, 5, .inl (mm_g [i_18, i_19, i_20, i_21, i_22]))), (a_7, .inl (cy 1, 30, .inl (mm_g [i_23, i_24, i_25, i_26, i_27, i_28, i_29, i_30, i_31, i_32, i_33, i_34, i_35, i_36, i_37, i_38, i_39, i_40, i_41, i_42, i_43, i_44, i_45, i_46, i_47, i_48, i_49, i_50, i_51, i_52]))), (a_9, .inl (cy 1, 15, .inl f_0)), (a_10, .inl (cy 1, 1050, .inl f_1)), (a_13, .inl (cy 1, 450, .inl f_2)), (a_15, .inl (cy 1, 7200, .inl g5082)), (a_16, .inl (cy 1, 3, .inl f_4)), (a_17, .inl (cy 1, 3, .inl f_5))]) hS
        have rg5082 : mm_ar g5082 0 9 := by rw [eg5082]; exact mm_ar_upd (mm_ar_wk rz2_6_142 (by decide)) (mm_wk q5079 (by decide)) _
        obtain ⟨v5083, ev5083⟩ : ∃ y : Int32, y = x2_2_141 + 1 := ⟨_, rfl⟩
        refine lv_iinc (v := v5083) (lv' := [(2, .int v5083), (0, .ref a_0), (1, .int i_0)]) hx hb dX12_laysLand_23 hl (k := 0) rfl (by rw [ev5083]; rfl) (by decide) rfl ?_
        clear hl
        clear ls
        intro ls hl
        have rv5083 : mm_rg v5083 1 10 := mm_add ev5083 q5079 mm_k1 (by decide) (by decide)
        have tv5083 := mm_addEc ev5083 q5079 mm_k1 (by decide) (k := 1) (by decide)
        refine lv_goto (tgt := 2) hx hb dX12_laysLand_26 (by decide) ?_
        exact ih2 v5083 g5082 (mm_wk rv5083 (by decide)) rg5082 (mm_t0_s w143 tv5083 eg5082 (by have := tv5081; have := tv5080; omega) q5079 h0 (by decide)) (mm_mu hm2 tv5083 (by decide) (rv5083).2 (by decide)) H locs hP hD hS ls (lv_sub hl [0, 1, 2] rfl)
  exact L2_143 _ 0 f_3 (mm_wk mm_k0 (by decide)) h39 (mm_t0_0 _ _) (Nat.lt_succ_self _) H locs hP hD hS ls (lv_sub hl [0, 1, 2] rfl)

