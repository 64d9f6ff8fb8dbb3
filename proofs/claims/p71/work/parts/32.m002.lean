theorem dX12_isByte_0 : decode cX12_isByte 0 = .ok (.iload_n 1, 1) := by decide +kernel
theorem dX12_isByte_1 : decode cX12_isByte 1 = .ok (.aload_n 0, 1) := by decide +kernel
theorem dX12_isByte_2 : decode cX12_isByte 2 = .ok (.getfield 94, 3) := by decide +kernel
theorem dX12_isByte_5 : decode cX12_isByte 5 = .ok (.if_icmp .ge 27, 3) := by decide +kernel
theorem dX12_isByte_8 : decode cX12_isByte 8 = .ok (.aload_n 0, 1) := by decide +kernel
theorem dX12_isByte_9 : decode cX12_isByte 9 = .ok (.getfield 23, 3) := by decide +kernel
theorem dX12_isByte_12 : decode cX12_isByte 12 = .ok (.iload_n 1, 1) := by decide +kernel
theorem dX12_isByte_13 : decode cX12_isByte 13 = .ok (.baload, 1) := by decide +kernel
theorem dX12_isByte_14 : decode cX12_isByte 14 = .ok (.iload_n 2, 1) := by decide +kernel
theorem dX12_isByte_15 : decode cX12_isByte 15 = .ok (.if_icmp .lt 17, 3) := by decide +kernel
theorem dX12_isByte_18 : decode cX12_isByte 18 = .ok (.aload_n 0, 1) := by decide +kernel
theorem dX12_isByte_19 : decode cX12_isByte 19 = .ok (.getfield 23, 3) := by decide +kernel
theorem dX12_isByte_22 : decode cX12_isByte 22 = .ok (.iload_n 1, 1) := by decide +kernel
theorem dX12_isByte_23 : decode cX12_isByte 23 = .ok (.baload, 1) := by decide +kernel
theorem dX12_isByte_24 : decode cX12_isByte 24 = .ok (.iload_n 3, 1) := by decide +kernel
theorem dX12_isByte_25 : decode cX12_isByte 25 = .ok (.if_icmp .gt 7, 3) := by decide +kernel
theorem dX12_isByte_28 : decode cX12_isByte 28 = .ok (.iconst 1, 1) := by decide +kernel
theorem dX12_isByte_29 : decode cX12_isByte 29 = .ok (.goto 4, 3) := by decide +kernel
theorem dX12_isByte_32 : decode cX12_isByte 32 = .ok (.iconst 0, 1) := by decide +kernel
theorem dX12_isByte_33 : decode cX12_isByte 33 = .ok (.ireturn, 1) := by decide +kernel
theorem dX12_next_0 : decode cX12_next 0 = .ok (.aload_n 0, 1) := by decide +kernel
theorem dX12_next_1 : decode cX12_next 1 = .ok (.aload_n 0, 1) := by decide +kernel
theorem dX12_next_2 : decode cX12_next 2 = .ok (.getfield 101, 3) := by decide +kernel
theorem dX12_next_5 : decode cX12_next 5 = .ok (.bipush 32, 2) := by decide +kernel
theorem dX12_next_7 : decode cX12_next 7 = .ok (.bipush 32, 2) := by decide +kernel
theorem dX12_next_9 : decode cX12_next 9 = .ok (.invokevirtual 104, 3) := by decide +kernel
theorem dX12_next_12 : decode cX12_next 12 = .ok (.ifCond .ne 18, 3) := by decide +kernel
theorem dX12_next_15 : decode cX12_next 15 = .ok (.aload_n 0, 1) := by decide +kernel
theorem dX12_next_16 : decode cX12_next 16 = .ok (.aload_n 0, 1) := by decide +kernel
theorem dX12_next_17 : decode cX12_next 17 = .ok (.getfield 101, 3) := by decide +kernel
theorem dX12_next_20 : decode cX12_next 20 = .ok (.bipush 10, 2) := by decide +kernel
theorem dX12_next_22 : decode cX12_next 22 = .ok (.bipush 10, 2) := by decide +kernel
theorem dX12_next_24 : decode cX12_next 24 = .ok (.invokevirtual 104, 3) := by decide +kernel
theorem dX12_next_27 : decode cX12_next 27 = .ok (.ifCond .eq 16, 3) := by decide +kernel
theorem dX12_next_30 : decode cX12_next 30 = .ok (.aload_n 0, 1) := by decide +kernel
theorem dX12_next_31 : decode cX12_next 31 = .ok (.dup, 1) := by decide +kernel
theorem dX12_next_32 : decode cX12_next 32 = .ok (.getfield 101, 3) := by decide +kernel
theorem dX12_next_35 : decode cX12_next 35 = .ok (.iconst 1, 1) := by decide +kernel
theorem dX12_next_36 : decode cX12_next 36 = .ok (.iadd, 1) := by decide +kernel
theorem dX12_next_37 : decode cX12_next 37 = .ok (.putfield 101, 3) := by decide +kernel
theorem dX12_next_40 : decode cX12_next 40 = .ok (.goto (-40), 3) := by decide +kernel
theorem dX12_next_43 : decode cX12_next 43 = .ok (.aload_n 0, 1) := by decide +kernel
theorem dX12_next_44 : decode cX12_next 44 = .ok (.aload_n 0, 1) := by decide +kernel
theorem dX12_next_45 : decode cX12_next 45 = .ok (.getfield 101, 3) := by decide +kernel
theorem dX12_next_48 : decode cX12_next 48 = .ok (.putfield 108, 3) := by decide +kernel
theorem dX12_next_51 : decode cX12_next 51 = .ok (.aload_n 0, 1) := by decide +kernel
theorem dX12_next_52 : decode cX12_next 52 = .ok (.iconst 0, 1) := by decide +kernel
theorem dX12_next_53 : decode cX12_next 53 = .ok (.putfield 111, 3) := by decide +kernel
theorem dX12_next_56 : decode cX12_next 56 = .ok (.aload_n 0, 1) := by decide +kernel
theorem dX12_next_57 : decode cX12_next 57 = .ok (.lconst 0, 1) := by decide +kernel
theorem dX12_next_58 : decode cX12_next 58 = .ok (.putfield 114, 3) := by decide +kernel
theorem dX12_next_61 : decode cX12_next 61 = .ok (.aload_n 0, 1) := by decide +kernel
theorem dX12_next_62 : decode cX12_next 62 = .ok (.getfield 101, 3) := by decide +kernel
theorem dX12_next_65 : decode cX12_next 65 = .ok (.aload_n 0, 1) := by decide +kernel
theorem dX12_next_66 : decode cX12_next 66 = .ok (.getfield 94, 3) := by decide +kernel
theorem dX12_next_69 : decode cX12_next 69 = .ok (.if_icmp .ne 11, 3) := by decide +kernel
theorem dX12_next_72 : decode cX12_next 72 = .ok (.aload_n 0, 1) := by decide +kernel
theorem dX12_next_73 : decode cX12_next 73 = .ok (.iconst 0, 1) := by decide +kernel
theorem dX12_next_74 : decode cX12_next 74 = .ok (.putfield 118, 3) := by decide +kernel
theorem dX12_next_77 : decode cX12_next 77 = .ok (.goto 230, 3) := by decide +kernel
theorem dX12_next_80 : decode cX12_next 80 = .ok (.aload_n 0, 1) := by decide +kernel
theorem dX12_next_81 : decode cX12_next 81 = .ok (.aload_n 0, 1) := by decide +kernel
theorem dX12_next_82 : decode cX12_next 82 = .ok (.getfield 101, 3) := by decide +kernel
theorem dX12_next_85 : decode cX12_next 85 = .ok (.bipush 97, 2) := by decide +kernel
theorem dX12_next_87 : decode cX12_next 87 = .ok (.bipush 122, 2) := by decide +kernel
theorem dX12_next_89 : decode cX12_next 89 = .ok (.invokevirtual 104, 3) := by decide +kernel
theorem dX12_next_92 : decode cX12_next 92 = .ok (.ifCond .eq 96, 3) := by decide +kernel
theorem dX12_next_95 : decode cX12_next 95 = .ok (.aload_n 0, 1) := by decide +kernel
theorem dX12_next_96 : decode cX12_next 96 = .ok (.iconst 1, 1) := by decide +kernel
theorem dX12_next_97 : decode cX12_next 97 = .ok (.putfield 118, 3) := by decide +kernel
theorem dX12_next_100 : decode cX12_next 100 = .ok (.iconst 0, 1) := by decide +kernel
theorem dX12_next_101 : decode cX12_next 101 = .ok (.istore_n 1, 1) := by decide +kernel
theorem dX12_next_102 : decode cX12_next 102 = .ok (.aload_n 0, 1) := by decide +kernel
theorem dX12_next_103 : decode cX12_next 103 = .ok (.aload_n 0, 1) := by decide +kernel
theorem dX12_next_104 : decode cX12_next 104 = .ok (.getfield 101, 3) := by decide +kernel
theorem dX12_next_107 : decode cX12_next 107 = .ok (.bipush 97, 2) := by decide +kernel
theorem dX12_next_109 : decode cX12_next 109 = .ok (.bipush 122, 2) := by decide +kernel
theorem dX12_next_111 : decode cX12_next 111 = .ok (.invokevirtual 104, 3) := by decide +kernel
theorem dX12_next_114 : decode cX12_next 114 = .ok (.ifCond .eq 71, 3) := by decide +kernel
theorem dX12_next_117 : decode cX12_next 117 = .ok (.aload_n 0, 1) := by decide +kernel
theorem dX12_next_118 : decode cX12_next 118 = .ok (.iload_n 1, 1) := by decide +kernel
theorem dX12_next_119 : decode cX12_next 119 = .ok (.bipush 11, 2) := by decide +kernel
theorem dX12_next_121 : decode cX12_next 121 = .ok (.if_icmp .le 9, 3) := by decide +kernel
theorem dX12_next_124 : decode cX12_next 124 = .ok (.ldc2_w 121, 3) := by decide +kernel
theorem dX12_next_127 : decode cX12_next 127 = .ok (.goto 26, 3) := by decide +kernel
theorem dX12_next_130 : decode cX12_next 130 = .ok (.ldc2_w 123, 3) := by decide +kernel
theorem dX12_next_133 : decode cX12_next 133 = .ok (.aload_n 0, 1) := by decide +kernel
theorem dX12_next_134 : decode cX12_next 134 = .ok (.getfield 114, 3) := by decide +kernel
theorem dX12_next_137 : decode cX12_next 137 = .ok (.lmul, 1) := by decide +kernel
theorem dX12_next_138 : decode cX12_next 138 = .ok (.aload_n 0, 1) := by decide +kernel
theorem dX12_next_139 : decode cX12_next 139 = .ok (.getfield 23, 3) := by decide +kernel
theorem dX12_next_142 : decode cX12_next 142 = .ok (.aload_n 0, 1) := by decide +kernel
theorem dX12_next_143 : decode cX12_next 143 = .ok (.getfield 101, 3) := by decide +kernel
theorem dX12_next_146 : decode cX12_next 146 = .ok (.baload, 1) := by decide +kernel
theorem dX12_next_147 : decode cX12_next 147 = .ok (.i2l, 1) := by decide +kernel
theorem dX12_next_148 : decode cX12_next 148 = .ok (.ladd, 1) := by decide +kernel
theorem dX12_next_149 : decode cX12_next 149 = .ok (.ldc2_w 125, 3) := by decide +kernel
theorem dX12_next_152 : decode cX12_next 152 = .ok (.lsub, 1) := by decide +kernel
theorem dX12_next_153 : decode cX12_next 153 = .ok (.putfield 114, 3) := by decide +kernel
theorem dX12_next_156 : decode cX12_next 156 = .ok (.iload_n 1, 1) := by decide +kernel
theorem dX12_next_157 : decode cX12_next 157 = .ok (.bipush 11, 2) := by decide +kernel
theorem dX12_next_159 : decode cX12_next 159 = .ok (.if_icmp .le 10, 3) := by decide +kernel
theorem dX12_next_162 : decode cX12_next 162 = .ok (.aload_n 0, 1) := by decide +kernel
theorem dX12_next_163 : decode cX12_next 163 = .ok (.ldc2_w 121, 3) := by decide +kernel
theorem dX12_next_166 : decode cX12_next 166 = .ok (.putfield 114, 3) := by decide +kernel
theorem dX12_next_169 : decode cX12_next 169 = .ok (.aload_n 0, 1) := by decide +kernel
theorem dX12_next_170 : decode cX12_next 170 = .ok (.dup, 1) := by decide +kernel
theorem dX12_next_171 : decode cX12_next 171 = .ok (.getfield 101, 3) := by decide +kernel
theorem dX12_next_174 : decode cX12_next 174 = .ok (.iconst 1, 1) := by decide +kernel
theorem dX12_next_175 : decode cX12_next 175 = .ok (.iadd, 1) := by decide +kernel
theorem dX12_next_176 : decode cX12_next 176 = .ok (.putfield 101, 3) := by decide +kernel
theorem dX12_next_179 : decode cX12_next 179 = .ok (.iinc 1 1, 3) := by decide +kernel
theorem dX12_next_182 : decode cX12_next 182 = .ok (.goto (-80), 3) := by decide +kernel
theorem dX12_next_185 : decode cX12_next 185 = .ok (.goto 122, 3) := by decide +kernel
theorem dX12_next_188 : decode cX12_next 188 = .ok (.aload_n 0, 1) := by decide +kernel
theorem dX12_next_189 : decode cX12_next 189 = .ok (.aload_n 0, 1) := by decide +kernel
theorem dX12_next_190 : decode cX12_next 190 = .ok (.getfield 101, 3) := by decide +kernel
theorem dX12_next_193 : decode cX12_next 193 = .ok (.bipush 48, 2) := by decide +kernel
theorem dX12_next_195 : decode cX12_next 195 = .ok (.bipush 57, 2) := by decide +kernel
theorem dX12_next_197 : decode cX12_next 197 = .ok (.invokevirtual 104, 3) := by decide +kernel
theorem dX12_next_200 : decode cX12_next 200 = .ok (.ifCond .eq 74, 3) := by decide +kernel
theorem dX12_next_203 : decode cX12_next 203 = .ok (.aload_n 0, 1) := by decide +kernel
theorem dX12_next_204 : decode cX12_next 204 = .ok (.iconst 2, 1) := by decide +kernel
theorem dX12_next_205 : decode cX12_next 205 = .ok (.putfield 118, 3) := by decide +kernel
theorem dX12_next_208 : decode cX12_next 208 = .ok (.aload_n 0, 1) := by decide +kernel
theorem dX12_next_209 : decode cX12_next 209 = .ok (.aload_n 0, 1) := by decide +kernel
theorem dX12_next_210 : decode cX12_next 210 = .ok (.getfield 101, 3) := by decide +kernel
theorem dX12_next_213 : decode cX12_next 213 = .ok (.bipush 48, 2) := by decide +kernel
theorem dX12_next_215 : decode cX12_next 215 = .ok (.bipush 57, 2) := by decide +kernel
theorem dX12_next_217 : decode cX12_next 217 = .ok (.invokevirtual 104, 3) := by decide +kernel
theorem dX12_next_220 : decode cX12_next 220 = .ok (.ifCond .eq 87, 3) := by decide +kernel
theorem dX12_next_223 : decode cX12_next 223 = .ok (.aload_n 0, 1) := by decide +kernel
theorem dX12_next_224 : decode cX12_next 224 = .ok (.aload_n 0, 1) := by decide +kernel
theorem dX12_next_225 : decode cX12_next 225 = .ok (.getfield 111, 3) := by decide +kernel
theorem dX12_next_228 : decode cX12_next 228 = .ok (.ldc 127, 2) := by decide +kernel
theorem dX12_next_230 : decode cX12_next 230 = .ok (.if_icmp .le 8, 3) := by decide +kernel
theorem dX12_next_233 : decode cX12_next 233 = .ok (.ldc 128, 2) := by decide +kernel
theorem dX12_next_235 : decode cX12_next 235 = .ok (.goto 23, 3) := by decide +kernel
theorem dX12_next_238 : decode cX12_next 238 = .ok (.bipush 10, 2) := by decide +kernel
theorem dX12_next_240 : decode cX12_next 240 = .ok (.aload_n 0, 1) := by decide +kernel
theorem dX12_next_241 : decode cX12_next 241 = .ok (.getfield 111, 3) := by decide +kernel
theorem dX12_next_244 : decode cX12_next 244 = .ok (.imul, 1) := by decide +kernel
theorem dX12_next_245 : decode cX12_next 245 = .ok (.aload_n 0, 1) := by decide +kernel
theorem dX12_next_246 : decode cX12_next 246 = .ok (.getfield 23, 3) := by decide +kernel
theorem dX12_next_249 : decode cX12_next 249 = .ok (.aload_n 0, 1) := by decide +kernel
theorem dX12_next_250 : decode cX12_next 250 = .ok (.getfield 101, 3) := by decide +kernel
theorem dX12_next_253 : decode cX12_next 253 = .ok (.baload, 1) := by decide +kernel
theorem dX12_next_254 : decode cX12_next 254 = .ok (.iadd, 1) := by decide +kernel
theorem dX12_next_255 : decode cX12_next 255 = .ok (.bipush 48, 2) := by decide +kernel
theorem dX12_next_257 : decode cX12_next 257 = .ok (.isub, 1) := by decide +kernel
theorem dX12_next_258 : decode cX12_next 258 = .ok (.putfield 111, 3) := by decide +kernel
theorem dX12_next_261 : decode cX12_next 261 = .ok (.aload_n 0, 1) := by decide +kernel
theorem dX12_next_262 : decode cX12_next 262 = .ok (.dup, 1) := by decide +kernel
theorem dX12_next_263 : decode cX12_next 263 = .ok (.getfield 101, 3) := by decide +kernel
theorem dX12_next_266 : decode cX12_next 266 = .ok (.iconst 1, 1) := by decide +kernel
theorem dX12_next_267 : decode cX12_next 267 = .ok (.iadd, 1) := by decide +kernel
theorem dX12_next_268 : decode cX12_next 268 = .ok (.putfield 101, 3) := by decide +kernel
theorem dX12_next_271 : decode cX12_next 271 = .ok (.goto (-63), 3) := by decide +kernel
theorem dX12_next_274 : decode cX12_next 274 = .ok (.aload_n 0, 1) := by decide +kernel
theorem dX12_next_275 : decode cX12_next 275 = .ok (.aload_n 0, 1) := by decide +kernel
theorem dX12_next_276 : decode cX12_next 276 = .ok (.getfield 23, 3) := by decide +kernel
theorem dX12_next_279 : decode cX12_next 279 = .ok (.aload_n 0, 1) := by decide +kernel
theorem dX12_next_280 : decode cX12_next 280 = .ok (.getfield 101, 3) := by decide +kernel
theorem dX12_next_283 : decode cX12_next 283 = .ok (.baload, 1) := by decide +kernel
theorem dX12_next_284 : decode cX12_next 284 = .ok (.bipush 59, 2) := by decide +kernel
theorem dX12_next_286 : decode cX12_next 286 = .ok (.if_icmp .ne 7, 3) := by decide +kernel
theorem dX12_next_289 : decode cX12_next 289 = .ok (.iconst 3, 1) := by decide +kernel
theorem dX12_next_290 : decode cX12_next 290 = .ok (.goto 4, 3) := by decide +kernel
theorem dX12_next_293 : decode cX12_next 293 = .ok (.iconst 4, 1) := by decide +kernel
theorem dX12_next_294 : decode cX12_next 294 = .ok (.putfield 118, 3) := by decide +kernel
theorem dX12_next_297 : decode cX12_next 297 = .ok (.aload_n 0, 1) := by decide +kernel
theorem dX12_next_298 : decode cX12_next 298 = .ok (.dup, 1) := by decide +kernel
theorem dX12_next_299 : decode cX12_next 299 = .ok (.getfield 101, 3) := by decide +kernel
theorem dX12_next_302 : decode cX12_next 302 = .ok (.iconst 1, 1) := by decide +kernel
theorem dX12_next_303 : decode cX12_next 303 = .ok (.iadd, 1) := by decide +kernel
theorem dX12_next_304 : decode cX12_next 304 = .ok (.putfield 101, 3) := by decide +kernel
theorem dX12_next_307 : decode cX12_next 307 = .ok (.return_, 1) := by decide +kernel
theorem mm_k100000 : mm_rg 100000 100000 100000 := ⟨by decide, by decide⟩
theorem mm_k11 : mm_rg 11 11 11 := ⟨by decide, by decide⟩
theorem hd_X12_isByte : yX12_isByte.cls = RX12 ∧ yX12_isByte.cls ≠ "java/lang/invoke/MethodHandle" ∧ yX12_isByte.cls ≠ "java/lang/invoke/VarHandle" ∧ (parseMethodDescriptor yX12_isByte.desc).map (fun d => d.parameters.length) = some 3 := by decide +kernel
set_option maxHeartbeats 4000000 in
set_option maxRecDepth 100000 in
theorem M16_X12_isByte (l : Launch) (G : va_G) (cy : Nat → ClassId) (sz : Nat) (a_0 : Nat) (i_0 : Int32) (i_1 : Int32) (a_1 : Nat) (a_2 : Nat) (a_3 : Nat) (a_4 : Nat) (a_5 : Nat) (i_2 : Int32) (i_3 : Int32) (i_4 : Int32) (i_5 : Int32) (i_6 : Int32) (j_0 : Int64) (i_7 : Int32) (i_8 : Int32) (i_9 : Int32) (i_10 : Int32) (a_6 : Nat) (a_7 : Nat) (a_8 : Nat) (a_9 : Nat) (a_10 : Nat) (a_11 : Nat) (a_12 : Nat) (a_13 : Nat) (a_14 : Nat) (a_15 : Nat) (a_16 : Nat) (a_17 : Nat) (a_18 : Nat) (i_11 : Int32) (i_12 : Int32) (i_13 : Int32) (i_14 : Int32) (i_15 : Int32) (i_16 : Int32) (a_19 : Nat) (i_17 : Int32) (a_20 : Nat) (f_0 : Nat → Int32) (h0 : mm_rg i_0 0 600) (h1 : mm_rg i_2 0 600) (h2 : mm_ar f_0 (-128) 127)  : mm_CI l yX12_isByte (mm_ws yX12_isByte cX12_isByte 4 (some .boolean)) ({ frames := 0, cells := 0, slots := 0, locals := 0 } : Room) G cy sz [(a_0, .inr (12, [.int i_1, .ref a_1, .ref a_2, .ref a_3, .ref a_4, .ref a_5, .int i_2, .int i_3, .int i_4, .int i_5, .int i_6, .long j_0, .int i_7, .int i_8, .int i_9, .int i_10, .ref a_6, .ref a_7, .ref a_8, .ref a_9, .ref a_10, .ref a_11, .ref a_12, .ref a_13, .ref a_14, .ref a_15, .ref a_16, .ref a_17, .ref a_18, .int i_11, .int i_12, .int i_13, .int i_14, .int i_15, .int i_16, .ref a_19, .int i_17, .ref a_20])), (a_5, .inl (cy 0, 600, .inl f_0))] [.ref a_0, .int i_0, .int 32, .int 32] (fun u : Unit => [(a_0, .inr (12, [.int i_1, .ref a_1, .ref a_2, .ref a_3, .ref a_4, .ref a_5, .int i_2, .int i_3, .int i_4, .int i_5, .int i_6, .long j_0, .int i_7, .int i_8, .int i_9, .int i_10, .ref a_6, .ref a_7, .ref a_8, .ref a_9, .ref a_10, .ref a_11, .ref a_12, .ref a_13, .ref a_14, .ref a_15, .ref a_16, .ref a_17, .ref a_18, .int i_11, .int i_12, .int i_13, .int i_14, .int i_15, .int i_16, .ref a_19, .int i_17, .ref a_20])), (a_5, .inl (cy 0, 600, .inl f_0))]) (fun (r : Int32) (u : Unit) => ((0 = r) ∨ (1 = r ∧ mm_rg i_0 0 599 ∧ (i_0 : Int32).toInt < (i_2 : Int32).toInt))) 0 0 := by
  refine mm_begin (lv := [(0, .ref a_0), (1, .int i_0), (2, .int 32), (3, .int 32)]) (by decide) (Nat.le_of_ble_eq_true rfl) rfl ?_
  intro p e s m below meth c A ls R args Q H locs hRe hQ hAe hx hb hr hlocks hml hown hnm hts hsz hA hS hP hK hD hZ hl
  have hRf : R.frames = 0 := by rw [hRe]
  have hRl : R.locals = 0 := by rw [hRe]
  have hRc : R.cells = 0 := by rw [hRe]
  have hRs : R.slots = 0 := by rw [hRe]
  refine lv_iload_n hx hb dX12_isByte_0 rfl (lv_at hl 1 rfl) ?_
  refine lv_aload_n hx hb dX12_isByte_1 rfl (lv_at hl 0 rfl) ?_
  refine va_get (D := G) (ci := 12) (v := .int i_2) (C := RX12) (T := TX12) (N := 38) hx hb hts (mm_i inlX12) hown hK.1 hP 0 rfl rfl 6 (by decide) (mm_h hts mm_w178) (fun _ h9 => h9) rfl dX12_isByte_2 ?_
  refine lv_icmp_ge (tgt := 32) hx hb dX12_isByte_5 (by decide) (fun c1 => ?_) (fun c1 => ?_)
  · refine lv_iconst (v := 0) hx hb dX12_isByte_32 (by decide) ?_
    subst hAe
    rw [hQ]
    exact W.zret (v := 0) hx hb hr rfl (fun t ht hW => ⟨⟨0, (), rfl, (Or.inl rfl), by rw [ht]; exact hP, hK.warm hW, hD⟩, hS.F ht⟩) hS.2.2 dX12_isByte_33
  · have q2 := mm_ltL (h := 599) (mm_nle c1) h0 h1 (by decide)
    have q3 := mm_ltR (lo := 1) (mm_nle c1) h0 h1 (by decide)
    refine lv_aload_n hx hb dX12_isByte_8 rfl (lv_at hl 0 rfl) ?_
    refine va_get (D := G) (ci := 12) (v := .ref a_5) (C := RX12) (T := TX12) (N := 38) hx hb hts (mm_i inlX12) hown hK.1 hP 0 rfl rfl 5 (by decide) (mm_h hts mm_w146) (fun _ h9 => h9) rfl dX12_isByte_9 ?_
    refine lv_iload_n hx hb dX12_isByte_12 rfl (lv_at hl 1 rfl) ?_
    refine va_bald hx hb hK.1 hP 1 0 rfl rfl (mm_in q2 (by decide)) dX12_isByte_13 ?_
    refine lv_topi (fun v4 ev4 => ?_)
    have rv4 : mm_rg v4 (-128) 127 := mm_eqv ev4 (h2 _)
    refine lv_iload_n hx hb dX12_isByte_14 rfl (lv_at hl 2 rfl) ?_
    refine lv_icmp_lt (tgt := 32) hx hb dX12_isByte_15 (by decide) (fun c5 => ?_) (fun c5 => ?_)
    · have q6 := mm_ltL (h := 31) (mm_lt c5) rv4 mm_k32 (by decide)
      refine lv_iconst (v := 0) hx hb dX12_isByte_32 (by decide) ?_
      subst hAe
      rw [hQ]
      exact W.zret (v := 0) hx hb hr rfl (fun t ht hW => ⟨⟨0, (), rfl, (Or.inl rfl), by rw [ht]; exact hP, hK.warm hW, hD⟩, hS.F ht⟩) hS.2.2 dX12_isByte_33
    · have q7 := mm_leR (mm_nlt c5) mm_k32 rv4
      refine lv_aload_n hx hb dX12_isByte_18 rfl (lv_at hl 0 rfl) ?_
      refine va_get (D := G) (ci := 12) (v := .ref a_5) (C := RX12) (T := TX12) (N := 38) hx hb hts (mm_i inlX12) hown hK.1 hP 0 rfl rfl 5 (by decide) (mm_h hts mm_w146) (fun _ h9 => h9) rfl dX12_isByte_19 ?_
      refine lv_iload_n hx hb dX12_isByte_22 rfl (lv_at hl 1 rfl) ?_
      refine va_bald hx hb hK.1 hP 1 0 rfl rfl (mm_in q2 (by decide)) dX12_isByte_23 ?_
      refine lv_topi (fun v8 ev8 => ?_)
      have rv8 : mm_rg v8 (-128) 127 := mm_eqv ev8 (h2 _)
      obtain rfl : v4 = v8 := ev4.trans ev8.symm
      refine lv_iload_n hx hb dX12_isByte_24 rfl (lv_at hl 3 rfl) ?_
      refine lv_icmp_gt (tgt := 32) hx hb dX12_isByte_25 (by decide) (fun c9 => ?_) (fun c9 => ?_)
      · have q10 := mm_ltR (lo := 33) (mm_lt c9) mm_k32 q7 (by decide)
        refine lv_iconst (v := 0) hx hb dX12_isByte_32 (by decide) ?_
        subst hAe
        rw [hQ]
        exact W.zret (v := 0) hx hb hr rfl (fun t ht hW => ⟨⟨0, (), rfl, (Or.inl rfl), by rw [ht]; exact hP, hK.warm hW, hD⟩, hS.F ht⟩) hS.2.2 dX12_isByte_33
      · have q11 := mm_leL (mm_nlt c9) q7 mm_k32
        refine lv_iconst (v := 1) hx hb dX12_isByte_28 (by decide) ?_
        refine lv_goto (tgt := 33) hx hb dX12_isByte_29 (by decide) ?_
        have w12 : (i_0 : Int32).toInt < (i_2 : Int32).toInt := (mm_nle c1)
        subst hAe
        rw [hQ]
        exact W.zret (v := 1) hx hb hr rfl (fun t ht hW => ⟨⟨1, (), rfl, (Or.inr ⟨rfl, q2, w12⟩), by rw [ht]; exact hP, hK.warm hW, hD⟩, hS.F ht⟩) hS.2.2 dX12_isByte_33

set_option maxHeartbeats 4000000 in
set_option maxRecDepth 100000 in
theorem M17_X12_isByte (l : Launch) (G : va_G) (cy : Nat → ClassId) (sz : Nat) (a_0 : Nat) (i_0 : Int32) (i_1 : Int32) (a_1 : Nat) (a_2 : Nat) (a_3 : Nat) (a_4 : Nat) (a_5 : Nat) (i_2 : Int32) (i_3 : Int32) (i_4 : Int32) (i_5 : Int32) (i_6 : Int32) (j_0 : Int64) (i_7 : Int32) (i_8 : Int32) (i_9 : Int32) (i_10 : Int32) (a_6 : Nat) (a_7 : Nat) (a_8 : Nat) (a_9 : Nat) (a_10 : Nat) (a_11 : Nat) (a_12 : Nat) (a_13 : Nat) (a_14 : Nat) (a_15 : Nat) (a_16 : Nat) (a_17 : Nat) (a_18 : Nat) (i_11 : Int32) (i_12 : Int32) (i_13 : Int32) (i_14 : Int32) (i_15 : Int32) (i_16 : Int32) (a_19 : Nat) (i_17 : Int32) (a_20 : Nat) (f_0 : Nat → Int32) (h0 : mm_rg i_0 0 600) (h1 : mm_rg i_2 0 600) (h2 : mm_ar f_0 (-128) 127)  : mm_CI l yX12_isByte (mm_ws yX12_isByte cX12_isByte 4 (some .boolean)) ({ frames := 0, cells := 0, slots := 0, locals := 0 } : Room) G cy sz [(a_0, .inr (12, [.int i_1, .ref a_1, .ref a_2, .ref a_3, .ref a_4, .ref a_5, .int i_2, .int i_3, .int i_4, .int i_5, .int i_6, .long j_0, .int i_7, .int i_8, .int i_9, .int i_10, .ref a_6, .ref a_7, .ref a_8, .ref a_9, .ref a_10, .ref a_11, .ref a_12, .ref a_13, .ref a_14, .ref a_15, .ref a_16, .ref a_17, .ref a_18, .int i_11, .int i_12, .int i_13, .int i_14, .int i_15, .int i_16, .ref a_19, .int i_17, .ref a_20])), (a_5, .inl (cy 0, 600, .inl f_0))] [.ref a_0, .int i_0, .int 10, .int 10] (fun u : Unit => [(a_0, .inr (12, [.int i_1, .ref a_1, .ref a_2, .ref a_3, .ref a_4, .ref a_5, .int i_2, .int i_3, .int i_4, .int i_5, .int i_6, .long j_0, .int i_7, .int i_8, .int i_9, .int i_10, .ref a_6, .ref a_7, .ref a_8, .ref a_9, .ref a_10, .ref a_11, .ref a_12, .ref a_13, .ref a_14, .ref a_15, .ref a_16, .ref a_17, .ref a_18, .int i_11, .int i_12, .int i_13, .int i_14, .int i_15, .int i_16, .ref a_19, .int i_17, .ref a_20])), (a_5, .inl (cy 0, 600, .inl f_0))]) (fun (r : Int32) (u : Unit) => ((0 = r) ∨ (1 = r ∧ mm_rg i_0 0 599 ∧ (i_0 : Int32).toInt < (i_2 : Int32).toInt))) 0 0 := by
  refine mm_begin (lv := [(0, .ref a_0), (1, .int i_0), (2, .int 10), (3, .int 10)]) (by decide) (Nat.le_of_ble_eq_true rfl) rfl ?_
  intro p e s m below meth c A ls R args Q H locs hRe hQ hAe hx hb hr hlocks hml hown hnm hts hsz hA hS hP hK hD hZ hl
  have hRf : R.frames = 0 := by rw [hRe]
  have hRl : R.locals = 0 := by rw [hRe]
  have hRc : R.cells = 0 := by rw [hRe]
  have hRs : R.slots = 0 := by rw [hRe]
  refine lv_iload_n hx hb dX12_isByte_0 rfl (lv_at hl 1 rfl) ?_
  refine lv_aload_n hx hb dX12_isByte_1 rfl (lv_at hl 0 rfl) ?_
  refine va_get (D := G) (ci := 12) (v := .int i_2) (C := RX12) (T := TX12) (N := 38) hx hb hts (mm_i inlX12) hown hK.1 hP 0 rfl rfl 6 (by decide) (mm_h hts mm_w178) (fun _ h9 => h9) rfl dX12_isByte_2 ?_
  refine lv_icmp_ge (tgt := 32) hx hb dX12_isByte_5 (by decide) (fun c1 => ?_) (fun c1 => ?_)
  · refine lv_iconst (v := 0) hx hb dX12_isByte_32 (by decide) ?_
    subst hAe
    rw [hQ]
    exact W.zret (v := 0) hx hb hr rfl (fun t ht hW => ⟨⟨0, (), rfl, (Or.inl rfl), by rw [ht]; exact hP, hK.warm hW, hD⟩, hS.F ht⟩) hS.2.2 dX12_isByte_33
  · have q2 := mm_ltL (h := 599) (mm_nle c1) h0 h1 (by decide)
    have q3 := mm_ltR (lo := 1) (mm_nle c1) h0 h1 (by decide)
    refine lv_aload_n hx hb dX12_isByte_8 rfl (lv_at hl 0 rfl) ?_
    refine va_get (D := G) (ci := 12) (v := .ref a_5) (C := RX12) (T := TX12) (N := 38) hx hb hts (mm_i inlX12) hown hK.1 hP 0 rfl rfl 5 (by decide) (mm_h hts mm_w146) (fun _ h9 => h9) rfl dX12_isByte_9 ?_
    refine lv_iload_n hx hb dX12_isByte_12 rfl (lv_at hl 1 rfl) ?_
    refine va_bald hx hb hK.1 hP 1 0 rfl rfl (mm_in q2 (by decide)) dX12_isByte_13 ?_
    refine lv_topi (fun v4 ev4 => ?_)
    have rv4 : mm_rg v4 (-128) 127 := mm_eqv ev4 (h2 _)
    refine lv_iload_n hx hb dX12_isByte_14 rfl (lv_at hl 2 rfl) ?_
    refine lv_icmp_lt (tgt := 32) hx hb dX12_isByte_15 (by decide) (fun c5 => ?_) (fun c5 => ?_)
    · have q6 := mm_ltL (h := 9) (mm_lt c5) rv4 mm_k10 (by decide)
      refine lv_iconst (v := 0) hx hb dX12_isByte_32 (by decide) ?_
      subst hAe
      rw [hQ]
      exact W.zret (v := 0) hx hb hr rfl (fun t ht hW => ⟨⟨0, (), rfl, (Or.inl rfl), by rw [ht]; exact hP, hK.warm hW, hD⟩, hS.F ht⟩) hS.2.2 dX12_isByte_33
    · have q7 := mm_leR (mm_nlt c5) mm_k10 rv4
      refine lv_aload_n hx hb dX12_isByte_18 rfl (lv_at hl 0 rfl) ?_
      refine va_get (D := G) (ci := 12) (v := .ref a_5) (C := RX12) (T := TX12) (N := 38) hx hb hts (mm_i inlX12) hown hK.1 hP 0 rfl rfl 5 (by decide) (mm_h hts mm_w146) (fun _ h9 => h9) rfl dX12_isByte_19 ?_
      refine lv_iload_n hx hb dX12_isByte_22 rfl (lv_at hl 1 rfl) ?_
      refine va_bald hx hb hK.1 hP 1 0 rfl rfl (mm_in q2 (by decide)) dX12_isByte_23 ?_
      refine lv_topi (fun v8 ev8 => ?_)
      have rv8 : mm_rg v8 (-128) 127 := mm_eqv ev8 (h2 _)
      obtain rfl : v4 = v8 := ev4.trans ev8.symm
      refine lv_iload_n hx hb dX12_isByte_24 rfl (lv_at hl 3 rfl) ?_
      refine lv_icmp_gt (tgt := 32) hx hb dX12_isByte_25 (by decide) (fun c9 => ?_) (fun c9 => ?_)
      · have q10 := mm_ltR (lo := 11) (mm_lt c9) mm_k10 q7 (by decide)
        refine lv_iconst (v := 0) hx hb dX12_isByte_32 (by decide) ?_
        subst hAe
        rw [hQ]
        exact W.zret (v := 0) hx hb hr rfl (fun t ht hW => ⟨⟨0, (), rfl, (Or.inl rfl), by rw [ht]; exact hP, hK.warm hW, hD⟩, hS.F ht⟩) hS.2.2 dX12_isByte_33
      · have q11 := mm_leL (mm_nlt c9) q7 mm_k10
        refine lv_iconst (v := 1) hx hb dX12_isByte_28 (by decide) ?_
        refine lv_goto (tgt := 33) hx hb dX12_isByte_29 (by decide) ?_
        have w12 : (i_0 : Int32).toInt < (i_2 : Int32).toInt := (mm_nle c1)
        subst hAe
        rw [hQ]
        exact W.zret (v := 1) hx hb hr rfl (fun t ht hW => ⟨⟨1, (), rfl, (Or.inr ⟨rfl, q2, w12⟩), by rw [ht]; exact hP, hK.warm hW, hD⟩, hS.F ht⟩) hS.2.2 dX12_isByte_33

set_option maxHeartbeats 4000000 in
set_option maxRecDepth 100000 in
theorem M18_X12_isByte (l : Launch) (G : va_G) (cy : Nat → ClassId) (sz : Nat) (a_0 : Nat) (i_0 : Int32) (i_1 : Int32) (a_1 : Nat) (a_2 : Nat) (a_3 : Nat) (a_4 : Nat) (a_5 : Nat) (i_2 : Int32) (i_3 : Int32) (i_4 : Int32) (i_5 : Int32) (i_6 : Int32) (j_0 : Int64) (i_7 : Int32) (i_8 : Int32) (i_9 : Int32) (i_10 : Int32) (a_6 : Nat) (a_7 : Nat) (a_8 : Nat) (a_9 : Nat) (a_10 : Nat) (a_11 : Nat) (a_12 : Nat) (a_13 : Nat) (a_14 : Nat) (a_15 : Nat) (a_16 : Nat) (a_17 : Nat) (a_18 : Nat) (i_11 : Int32) (i_12 : Int32) (i_13 : Int32) (i_14 : Int32) (i_15 : Int32) (i_16 : Int32) (a_19 : Nat) (i_17 : Int32) (a_20 : Nat) (f_0 : Nat → Int32) (h0 : mm_rg i_0 0 599) (h1 : mm_rg i_2 0 600) (h2 : mm_ar f_0 (-128) 127)  : mm_CI l yX12_isByte (mm_ws yX12_isByte cX12_isByte 4 (some .boolean)) ({ frames := 0, cells := 0, slots := 0, locals := 0 } : Room) G cy sz [(a_0, .inr (12, [.int i_1, .ref a_1, .ref a_2, .ref a_3, .ref a_4, .ref a_5, .int i_2, .int i_3, .int i_4, .int i_5, .int i_6, .long j_0, .int i_7, .int i_8, .int i_9, .int i_10, .ref a_6, .ref a_7, .ref a_8, .ref a_9, .ref a_10, .ref a_11, .ref a_12, .ref a_13, .ref a_14, .ref a_15, .ref a_16, .ref a_17, .ref a_18, .int i_11, .int i_12, .int i_13, .int i_14, .int i_15, .int i_16, .ref a_19, .int i_17, .ref a_20])), (a_5, .inl (cy 0, 600, .inl f_0))] [.ref a_0, .int i_0, .int 97, .int 122] (fun u : Unit => [(a_0, .inr (12, [.int i_1, .ref a_1, .ref a_2, .ref a_3, .ref a_4, .ref a_5, .int i_2, .int i_3, .int i_4, .int i_5, .int i_6, .long j_0, .int i_7, .int i_8, .int i_9, .int i_10, .ref a_6, .ref a_7, .ref a_8, .ref a_9, .ref a_10, .ref a_11, .ref a_12, .ref a_13, .ref a_14, .ref a_15, .ref a_16, .ref a_17, .ref a_18, .int i_11, .int i_12, .int i_13, .int i_14, .int i_15, .int i_16, .ref a_19, .int i_17, .ref a_20])), (a_5, .inl (cy 0, 600, .inl f_0))]) (fun (r : Int32) (u : Unit) => ((0 = r) ∨ (1 = r ∧ (i_0 : Int32).toInt < (i_2 : Int32).toInt))) 0 0 := by
  refine mm_begin (lv := [(0, .ref a_0), (1, .int i_0), (2, .int 97), (3, .int 122)]) (by decide) (Nat.le_of_ble_eq_true rfl) rfl ?_
  intro p e s m below meth c A ls R args Q H locs hRe hQ hAe hx hb hr hlocks hml hown hnm hts hsz hA hS hP hK hD hZ hl
  have hRf : R.frames = 0 := by rw [hRe]
  have hRl : R.locals = 0 := by rw [hRe]
  have hRc : R.cells = 0 := by rw [hRe]
  have hRs : R.slots = 0 := by rw [hRe]
  refine lv_iload_n hx hb dX12_isByte_0 rfl (lv_at hl 1 rfl) ?_
  refine lv_aload_n hx hb dX12_isByte_1 rfl (lv_at hl 0 rfl) ?_
  refine va_get (D := G) (ci := 12) (v := .int i_2) (C := RX12) (T := TX12) (N := 38) hx hb hts (mm_i inlX12) hown hK.1 hP 0 rfl rfl 6 (by decide) (mm_h hts mm_w178) (fun _ h9 => h9) rfl dX12_isByte_2 ?_
  refine lv_icmp_ge (tgt := 32) hx hb dX12_isByte_5 (by decide) (fun c1 => ?_) (fun c1 => ?_)
  · have q2 := mm_leL (mm_le c1) h1 h0
    refine lv_iconst (v := 0) hx hb dX12_isByte_32 (by decide) ?_
    subst hAe
    rw [hQ]
    exact W.zret (v := 0) hx hb hr rfl (fun t ht hW => ⟨⟨0, (), rfl, (Or.inl rfl), by rw [ht]; exact hP, hK.warm hW, hD⟩, hS.F ht⟩) hS.2.2 dX12_isByte_33
  · have q3 := mm_ltR (lo := 1) (mm_nle c1) h0 h1 (by decide)
    refine lv_aload_n hx hb dX12_isByte_8 rfl (lv_at hl 0 rfl) ?_
    refine va_get (D := G) (ci := 12) (v := .ref a_5) (C := RX12) (T := TX12) (N := 38) hx hb hts (mm_i inlX12) hown hK.1 hP 0 rfl rfl 5 (by decide) (mm_h hts mm_w146) (fun _ h9 => h9) rfl dX12_isByte_9 ?_
    refine lv_iload_n hx hb dX12_isByte_12 rfl (lv_at hl 1 rfl) ?_
    refine va_bald hx hb hK.1 hP 1 0 rfl rfl (mm_in h0 (by decide)) dX12_isByte_13 ?_
    refine lv_topi (fun v4 ev4 => ?_)
    have rv4 : mm_rg v4 (-128) 127 := mm_eqv ev4 (h2 _)
    refine lv_iload_n hx hb dX12_isByte_14 rfl (lv_at hl 2 rfl) ?_
    refine lv_icmp_lt (tgt := 32) hx hb dX12_isByte_15 (by decide) (fun c5 => ?_) (fun c5 => ?_)
    · have q6 := mm_ltL (h := 96) (mm_lt c5) rv4 mm_k97 (by decide)
      refine lv_iconst (v := 0) hx hb dX12_isByte_32 (by decide) ?_
      subst hAe
      rw [hQ]
      exact W.zret (v := 0) hx hb hr rfl (fun t ht hW => ⟨⟨0, (), rfl, (Or.inl rfl), by rw [ht]; exact hP, hK.warm hW, hD⟩, hS.F ht⟩) hS.2.2 dX12_isByte_33
    · have q7 := mm_leR (mm_nlt c5) mm_k97 rv4
      refine lv_aload_n hx hb dX12_isByte_18 rfl (lv_at hl 0 rfl) ?_
      refine va_get (D := G) (ci := 12) (v := .ref a_5) (C := RX12) (T := TX12) (N := 38) hx hb hts (mm_i inlX12) hown hK.1 hP 0 rfl rfl 5 (by decide) (mm_h hts mm_w146) (fun _ h9 => h9) rfl dX12_isByte_19 ?_
      refine lv_iload_n hx hb dX12_isByte_22 rfl (lv_at hl 1 rfl) ?_
      refine va_bald hx hb hK.1 hP 1 0 rfl rfl (mm_in h0 (by decide)) dX12_isByte_23 ?_
      refine lv_topi (fun v8 ev8 => ?_)
      have rv8 : mm_rg v8 (-128) 127 := mm_eqv ev8 (h2 _)
      obtain rfl : v4 = v8 := ev4.trans ev8.symm
      refine lv_iload_n hx hb dX12_isByte_24 rfl (lv_at hl 3 rfl) ?_
      refine lv_icmp_gt (tgt := 32) hx hb dX12_isByte_25 (by decide) (fun c9 => ?_) (fun c9 => ?_)
      · have q10 := mm_ltR (lo := 123) (mm_lt c9) mm_k122 q7 (by decide)
        refine lv_iconst (v := 0) hx hb dX12_isByte_32 (by decide) ?_
        subst hAe
        rw [hQ]
        exact W.zret (v := 0) hx hb hr rfl (fun t ht hW => ⟨⟨0, (), rfl, (Or.inl rfl), by rw [ht]; exact hP, hK.warm hW, hD⟩, hS.F ht⟩) hS.2.2 dX12_isByte_33
      · have q11 := mm_leL (mm_nlt c9) q7 mm_k122
        refine lv_iconst (v := 1) hx hb dX12_isByte_28 (by decide) ?_
        refine lv_goto (tgt := 33) hx hb dX12_isByte_29 (by decide) ?_
        have w12 : (i_0 : Int32).toInt < (i_2 : Int32).toInt := (mm_nle c1)
        subst hAe
        rw [hQ]
        exact W.zret (v := 1) hx hb hr rfl (fun t ht hW => ⟨⟨1, (), rfl, (Or.inr ⟨rfl, w12⟩), by rw [ht]; exact hP, hK.warm hW, hD⟩, hS.F ht⟩) hS.2.2 dX12_isByte_33

set_option maxHeartbeats 4000000 in
set_option maxRecDepth 100000 in
theorem M19_X12_isByte (l : Launch) (G : va_G) (cy : Nat → ClassId) (sz : Nat) (a_0 : Nat) (i_0 : Int32) (i_1 : Int32) (a_1 : Nat) (a_2 : Nat) (a_3 : Nat) (a_4 : Nat) (a_5 : Nat) (i_2 : Int32) (i_3 : Int32) (i_4 : Int32) (i_5 : Int32) (i_6 : Int32) (j_0 : Int64) (i_7 : Int32) (i_8 : Int32) (i_9 : Int32) (i_10 : Int32) (a_6 : Nat) (a_7 : Nat) (a_8 : Nat) (a_9 : Nat) (a_10 : Nat) (a_11 : Nat) (a_12 : Nat) (a_13 : Nat) (a_14 : Nat) (a_15 : Nat) (a_16 : Nat) (a_17 : Nat) (a_18 : Nat) (i_11 : Int32) (i_12 : Int32) (i_13 : Int32) (i_14 : Int32) (i_15 : Int32) (i_16 : Int32) (a_19 : Nat) (i_17 : Int32) (a_20 : Nat) (f_0 : Nat → Int32) (h0 : mm_rg i_0 0 599) (h1 : mm_rg i_2 0 600) (h2 : mm_ar f_0 (-128) 127)  : mm_CI l yX12_isByte (mm_ws yX12_isByte cX12_isByte 4 (some .boolean)) ({ frames := 0, cells := 0, slots := 0, locals := 0 } : Room) G cy sz [(a_0, .inr (12, [.int i_1, .ref a_1, .ref a_2, .ref a_3, .ref a_4, .ref a_5, .int i_2, .int i_3, .int i_4, .int i_5, .int i_6, .long j_0, .int i_7, .int i_8, .int i_9, .int i_10, .ref a_6, .ref a_7, .ref a_8, .ref a_9, .ref a_10, .ref a_11, .ref a_12, .ref a_13, .ref a_14, .ref a_15, .ref a_16, .ref a_17, .ref a_18, .int i_11, .int i_12, .int i_13, .int i_14, .int i_15, .int i_16, .ref a_19, .int i_17, .ref a_20])), (a_5, .inl (cy 0, 600, .inl f_0))] [.ref a_0, .int i_0, .int 48, .int 57] (fun u : Unit => [(a_0, .inr (12, [.int i_1, .ref a_1, .ref a_2, .ref a_3, .ref a_4, .ref a_5, .int i_2, .int i_3, .int i_4, .int i_5, .int i_6, .long j_0, .int i_7, .int i_8, .int i_9, .int i_10, .ref a_6, .ref a_7, .ref a_8, .ref a_9, .ref a_10, .ref a_11, .ref a_12, .ref a_13, .ref a_14, .ref a_15, .ref a_16, .ref a_17, .ref a_18, .int i_11, .int i_12, .int i_13, .int i_14, .int i_15, .int i_16, .ref a_19, .int i_17, .ref a_20])), (a_5, .inl (cy 0, 600, .inl f_0))]) (fun (r : Int32) (u : Unit) => ((0 = r) ∨ (1 = r ∧ (i_0 : Int32).toInt < (i_2 : Int32).toInt))) 0 0 := by
  refine mm_begin (lv := [(0, .ref a_0), (1, .int i_0), (2, .int 48), (3, .int 57)]) (by decide) (Nat.le_of_ble_eq_true rfl) rfl ?_
  intro p e s m below meth c A ls R args Q H locs hRe hQ hAe hx hb hr hlocks hml hown hnm hts hsz hA hS hP hK hD hZ hl
  have hRf : R.frames = 0 := by rw [hRe]
  have hRl : R.locals = 0 := by rw [hRe]
  have hRc : R.cells = 0 := by rw [hRe]
  have hRs : R.slots = 0 := by rw [hRe]
  refine lv_iload_n hx hb dX12_isByte_0 rfl (lv_at hl 1 rfl) ?_
  refine lv_aload_n hx hb dX12_isByte_1 rfl (lv_at hl 0 rfl) ?_
  refine va_get (D := G) (ci := 12) (v := .int i_2) (C := RX12) (T := TX12) (N := 38) hx hb hts (mm_i inlX12) hown hK.1 hP 0 rfl rfl 6 (by decide) (mm_h hts mm_w178) (fun _ h9 => h9) rfl dX12_isByte_2 ?_
  refine lv_icmp_ge (tgt := 32) hx hb dX12_isByte_5 (by decide) (fun c1 => ?_) (fun c1 => ?_)
  · have q2 := mm_leL (mm_le c1) h1 h0
    refine lv_iconst (v := 0) hx hb dX12_isByte_32 (by decide) ?_
    subst hAe
    rw [hQ]
    exact W.zret (v := 0) hx hb hr rfl (fun t ht hW => ⟨⟨0, (), rfl, (Or.inl rfl), by rw [ht]; exact hP, hK.warm hW, hD⟩, hS.F ht⟩) hS.2.2 dX12_isByte_33
  · have q3 := mm_ltR (lo := 1) (mm_nle c1) h0 h1 (by decide)
    refine lv_aload_n hx hb dX12_isByte_8 rfl (lv_at hl 0 rfl) ?_
    refine va_get (D := G) (ci := 12) (v := .ref a_5) (C := RX12) (T := TX12) (N := 38) hx hb hts (mm_i inlX12) hown hK.1 hP 0 rfl rfl 5 (by decide) (mm_h hts mm_w146) (fun _ h9 => h9) rfl dX12_isByte_9 ?_
    refine lv_iload_n hx hb dX12_isByte_12 rfl (lv_at hl 1 rfl) ?_
    refine va_bald hx hb hK.1 hP 1 0 rfl rfl (mm_in h0 (by decide)) dX12_isByte_13 ?_
    refine lv_topi (fun v4 ev4 => ?_)
    have rv4 : mm_rg v4 (-128) 127 := mm_eqv ev4 (h2 _)
    refine lv_iload_n hx hb dX12_isByte_14 rfl (lv_at hl 2 rfl) ?_
    refine lv_icmp_lt (tgt := 32) hx hb dX12_isByte_15 (by decide) (fun c5 => ?_) (fun c5 => ?_)
    · have q6 := mm_ltL (h := 47) (mm_lt c5) rv4 mm_k48 (by decide)
      refine lv_iconst (v := 0) hx hb dX12_isByte_32 (by decide) ?_
      subst hAe
      rw [hQ]
      exact W.zret (v := 0) hx hb hr rfl (fun t ht hW => ⟨⟨0, (), rfl, (Or.inl rfl), by rw [ht]; exact hP, hK.warm hW, hD⟩, hS.F ht⟩) hS.2.2 dX12_isByte_33
    · have q7 := mm_leR (mm_nlt c5) mm_k48 rv4
      refine lv_aload_n hx hb dX12_isByte_18 rfl (lv_at hl 0 rfl) ?_
      refine va_get (D := G) (ci := 12) (v := .ref a_5) (C := RX12) (T := TX12) (N := 38) hx hb hts (mm_i inlX12) hown hK.1 hP 0 rfl rfl 5 (by decide) (mm_h hts mm_w146) (fun _ h9 => h9) rfl dX12_isByte_19 ?_
      refine lv_iload_n hx hb dX12_isByte_22 rfl (lv_at hl 1 rfl) ?_
      refine va_bald hx hb hK.1 hP 1 0 rfl rfl (mm_in h0 (by decide)) dX12_isByte_23 ?_
      refine lv_topi (fun v8 ev8 => ?_)
      have rv8 : mm_rg v8 (-128) 127 := mm_eqv ev8 (h2 _)
      obtain rfl : v4 = v8 := ev4.trans ev8.symm
      refine lv_iload_n hx hb dX12_isByte_24 rfl (lv_at hl 3 rfl) ?_
      refine lv_icmp_gt (tgt := 32) hx hb dX12_isByte_25 (by decide) (fun c9 => ?_) (fun c9 => ?_)
      · have q10 := mm_ltR (lo := 58) (mm_lt c9) mm_k57 q7 (by decide)
        refine lv_iconst (v := 0) hx hb dX12_isByte_32 (by decide) ?_
        subst hAe
        rw [hQ]
        exact W.zret (v := 0) hx hb hr rfl (fun t ht hW => ⟨⟨0, (), rfl, (Or.inl rfl), by rw [ht]; exact hP, hK.warm hW, hD⟩, hS.F ht⟩) hS.2.2 dX12_isByte_33
      · have q11 := mm_leL (mm_nlt c9) q7 mm_k57
        refine lv_iconst (v := 1) hx hb dX12_isByte_28 (by decide) ?_
        refine lv_goto (tgt := 33) hx hb dX12_isByte_29 (by decide) ?_
        have w12 : (i_0 : Int32).toInt < (i_2 : Int32).toInt := (mm_nle c1)
        subst hAe
        rw [hQ]
        exact W.zret (v := 1) hx hb hr rfl (fun t ht hW => ⟨⟨1, (), rfl, (Or.inr ⟨rfl, w12⟩), by rw [ht]; exact hP, hK.warm hW, hD⟩, hS.F ht⟩) hS.2.2 dX12_isByte_33

set_option maxHeartbeats 4000000 in
set_option maxRecDepth 100000 in
theorem M20_X12_isByte (l : Launch) (G : va_G) (cy : Nat → ClassId) (sz : Nat) (a_0 : Nat) (i_0 : Int32) (i_1 : Int32) (a_1 : Nat) (a_2 : Nat) (a_3 : Nat) (a_4 : Nat) (a_5 : Nat) (i_2 : Int32) (i_3 : Int32) (i_4 : Int32) (i_5 : Int32) (i_6 : Int32) (j_0 : Int64) (i_7 : Int32) (i_8 : Int32) (i_9 : Int32) (i_10 : Int32) (a_6 : Nat) (a_7 : Nat) (a_8 : Nat) (a_9 : Nat) (a_10 : Nat) (a_11 : Nat) (a_12 : Nat) (a_13 : Nat) (a_14 : Nat) (a_15 : Nat) (a_16 : Nat) (a_17 : Nat) (a_18 : Nat) (i_11 : Int32) (i_12 : Int32) (i_13 : Int32) (i_14 : Int32) (i_15 : Int32) (i_16 : Int32) (a_19 : Nat) (i_17 : Int32) (a_20 : Nat) (f_0 : Nat → Int32) (h0 : mm_rg i_0 0 600) (h1 : mm_rg i_2 0 600) (h2 : mm_ar f_0 (-128) 127)  : mm_CI l yX12_isByte (mm_ws yX12_isByte cX12_isByte 4 (some .boolean)) ({ frames := 0, cells := 0, slots := 0, locals := 0 } : Room) G cy sz [(a_0, .inr (12, [.int i_1, .ref a_1, .ref a_2, .ref a_3, .ref a_4, .ref a_5, .int i_2, .int i_3, .int i_4, .int i_5, .int i_6, .long j_0, .int i_7, .int i_8, .int i_9, .int i_10, .ref a_6, .ref a_7, .ref a_8, .ref a_9, .ref a_10, .ref a_11, .ref a_12, .ref a_13, .ref a_14, .ref a_15, .ref a_16, .ref a_17, .ref a_18, .int i_11, .int i_12, .int i_13, .int i_14, .int i_15, .int i_16, .ref a_19, .int i_17, .ref a_20])), (a_5, .inl (cy 0, 600, .inl f_0))] [.ref a_0, .int i_0, .int 48, .int 57] (fun u : Unit => [(a_0, .inr (12, [.int i_1, .ref a_1, .ref a_2, .ref a_3, .ref a_4, .ref a_5, .int i_2, .int i_3, .int i_4, .int i_5, .int i_6, .long j_0, .int i_7, .int i_8, .int i_9, .int i_10, .ref a_6, .ref a_7, .ref a_8, .ref a_9, .ref a_10, .ref a_11, .ref a_12, .ref a_13, .ref a_14, .ref a_15, .ref a_16, .ref a_17, .ref a_18, .int i_11, .int i_12, .int i_13, .int i_14, .int i_15, .int i_16, .ref a_19, .int i_17, .ref a_20])), (a_5, .inl (cy 0, 600, .inl f_0))]) (fun (r : Int32) (u : Unit) => ((0 = r) ∨ (1 = r ∧ mm_rg i_0 0 599 ∧ (i_0 : Int32).toInt < (i_2 : Int32).toInt))) 0 0 := by
  refine mm_begin (lv := [(0, .ref a_0), (1, .int i_0), (2, .int 48), (3, .int 57)]) (by decide) (Nat.le_of_ble_eq_true rfl) rfl ?_
  intro p e s m below meth c A ls R args Q H locs hRe hQ hAe hx hb hr hlocks hml hown hnm hts hsz hA hS hP hK hD hZ hl
  have hRf : R.frames = 0 := by rw [hRe]
  have hRl : R.locals = 0 := by rw [hRe]
  have hRc : R.cells = 0 := by rw [hRe]
  have hRs : R.slots = 0 := by rw [hRe]
  refine lv_iload_n hx hb dX12_isByte_0 rfl (lv_at hl 1 rfl) ?_
  refine lv_aload_n hx hb dX12_isByte_1 rfl (lv_at hl 0 rfl) ?_
  refine va_get (D := G) (ci := 12) (v := .int i_2) (C := RX12) (T := TX12) (N := 38) hx hb hts (mm_i inlX12) hown hK.1 hP 0 rfl rfl 6 (by decide) (mm_h hts mm_w178) (fun _ h9 => h9) rfl dX12_isByte_2 ?_
  refine lv_icmp_ge (tgt := 32) hx hb dX12_isByte_5 (by decide) (fun c1 => ?_) (fun c1 => ?_)
  · refine lv_iconst (v := 0) hx hb dX12_isByte_32 (by decide) ?_
    subst hAe
    rw [hQ]
    exact W.zret (v := 0) hx hb hr rfl (fun t ht hW => ⟨⟨0, (), rfl, (Or.inl rfl), by rw [ht]; exact hP, hK.warm hW, hD⟩, hS.F ht⟩) hS.2.2 dX12_isByte_33
  · have q2 := mm_ltL (h := 599) (mm_nle c1) h0 h1 (by decide)
    have q3 := mm_ltR (lo := 1) (mm_nle c1) h0 h1 (by decide)
    refine lv_aload_n hx hb dX12_isByte_8 rfl (lv_at hl 0 rfl) ?_
    refine va_get (D := G) (ci := 12) (v := .ref a_5) (C := RX12) (T := TX12) (N := 38) hx hb hts (mm_i inlX12) hown hK.1 hP 0 rfl rfl 5 (by decide) (mm_h hts mm_w146) (fun _ h9 => h9) rfl dX12_isByte_9 ?_
    refine lv_iload_n hx hb dX12_isByte_12 rfl (lv_at hl 1 rfl) ?_
    refine va_bald hx hb hK.1 hP 1 0 rfl rfl (mm_in q2 (by decide)) dX12_isByte_13 ?_
    refine lv_topi (fun v4 ev4 => ?_)
    have rv4 : mm_rg v4 (-128) 127 := mm_eqv ev4 (h2 _)
    refine lv_iload_n hx hb dX12_isByte_14 rfl (lv_at hl 2 rfl) ?_
    refine lv_icmp_lt (tgt := 32) hx hb dX12_isByte_15 (by decide) (fun c5 => ?_) (fun c5 => ?_)
    · have q6 := mm_ltL (h := 47) (mm_lt c5) rv4 mm_k48 (by decide)
      refine lv_iconst (v := 0) hx hb dX12_isByte_32 (by decide) ?_
      subst hAe
      rw [hQ]
      exact W.zret (v := 0) hx hb hr rfl (fun t ht hW => ⟨⟨0, (), rfl, (Or.inl rfl), by rw [ht]; exact hP, hK.warm hW, hD⟩, hS.F ht⟩) hS.2.2 dX12_isByte_33
    · have q7 := mm_leR (mm_nlt c5) mm_k48 rv4
      refine lv_aload_n hx hb dX12_isByte_18 rfl (lv_at hl 0 rfl) ?_
      refine va_get (D := G) (ci := 12) (v := .ref a_5) (C := RX12) (T := TX12) (N := 38) hx hb hts (mm_i inlX12) hown hK.1 hP 0 rfl rfl 5 (by decide) (mm_h hts mm_w146) (fun _ h9 => h9) rfl dX12_isByte_19 ?_
      refine lv_iload_n hx hb dX12_isByte_22 rfl (lv_at hl 1 rfl) ?_
      refine va_bald hx hb hK.1 hP 1 0 rfl rfl (mm_in q2 (by decide)) dX12_isByte_23 ?_
      refine lv_topi (fun v8 ev8 => ?_)
      have rv8 : mm_rg v8 (-128) 127 := mm_eqv ev8 (h2 _)
      obtain rfl : v4 = v8 := ev4.trans ev8.symm
      refine lv_iload_n hx hb dX12_isByte_24 rfl (lv_at hl 3 rfl) ?_
      refine lv_icmp_gt (tgt := 32) hx hb dX12_isByte_25 (by decide) (fun c9 => ?_) (fun c9 => ?_)
      · have q10 := mm_ltR (lo := 58) (mm_lt c9) mm_k57 q7 (by decide)
        refine lv_iconst (v := 0) hx hb dX12_isByte_32 (by decide) ?_
        subst hAe
        rw [hQ]
        exact W.zret (v := 0) hx hb hr rfl (fun t ht hW => ⟨⟨0, (), rfl, (Or.inl rfl), by rw [ht]; exact hP, hK.warm hW, hD⟩, hS.F ht⟩) hS.2.2 dX12_isByte_33
      · have q11 := mm_leL (mm_nlt c9) q7 mm_k57
        refine lv_iconst (v := 1) hx hb dX12_isByte_28 (by decide) ?_
        refine lv_goto (tgt := 33) hx hb dX12_isByte_29 (by decide) ?_
        have w12 : (i_0 : Int32).toInt < (i_2 : Int32).toInt := (mm_nle c1)
        subst hAe
        rw [hQ]
        exact W.zret (v := 1) hx hb hr rfl (fun t ht hW => ⟨⟨1, (), rfl, (Or.inr ⟨rfl, q2, w12⟩), by rw [ht]; exact hP, hK.warm hW, hD⟩, hS.F ht⟩) hS.2.2 dX12_isByte_33

set_option maxHeartbeats 4000000 in
set_option maxRecDepth 100000 in
theorem M21_X12_isByte (l : Launch) (G : va_G) (cy : Nat → ClassId) (sz : Nat) (a_0 : Nat) (i_0 : Int32) (i_1 : Int32) (a_1 : Nat) (a_2 : Nat) (a_3 : Nat) (a_4 : Nat) (a_5 : Nat) (i_2 : Int32) (i_3 : Int32) (i_4 : Int32) (i_5 : Int32) (i_6 : Int32) (j_0 : Int64) (i_7 : Int32) (i_8 : Int32) (i_9 : Int32) (i_10 : Int32) (a_6 : Nat) (a_7 : Nat) (a_8 : Nat) (a_9 : Nat) (a_10 : Nat) (a_11 : Nat) (a_12 : Nat) (a_13 : Nat) (a_14 : Nat) (a_15 : Nat) (a_16 : Nat) (a_17 : Nat) (a_18 : Nat) (i_11 : Int32) (i_12 : Int32) (i_13 : Int32) (i_14 : Int32) (i_15 : Int32) (i_16 : Int32) (a_19 : Nat) (i_17 : Int32) (a_20 : Nat) (f_0 : Nat → Int32) (h0 : mm_rg i_0 0 600) (h1 : mm_rg i_2 0 600) (h2 : mm_ar f_0 (-128) 127)  : mm_CI l yX12_isByte (mm_ws yX12_isByte cX12_isByte 4 (some .boolean)) ({ frames := 0, cells := 0, slots := 0, locals := 0 } : Room) G cy sz [(a_0, .inr (12, [.int i_1, .ref a_1, .ref a_2, .ref a_3, .ref a_4, .ref a_5, .int i_2, .int i_3, .int i_4, .int i_5, .int i_6, .long j_0, .int i_7, .int i_8, .int i_9, .int i_10, .ref a_6, .ref a_7, .ref a_8, .ref a_9, .ref a_10, .ref a_11, .ref a_12, .ref a_13, .ref a_14, .ref a_15, .ref a_16, .ref a_17, .ref a_18, .int i_11, .int i_12, .int i_13, .int i_14, .int i_15, .int i_16, .ref a_19, .int i_17, .ref a_20])), (a_5, .inl (cy 0, 600, .inl f_0))] [.ref a_0, .int i_0, .int 97, .int 122] (fun u : Unit => [(a_0, .inr (12, [.int i_1, .ref a_1, .ref a_2, .ref a_3, .ref a_4, .ref a_5, .int i_2, .int i_3, .int i_4, .int i_5, .int i_6, .long j_0, .int i_7, .int i_8, .int i_9, .int i_10, .ref a_6, .ref a_7, .ref a_8, .ref a_9, .ref a_10, .ref a_11, .ref a_12, .ref a_13, .ref a_14, .ref a_15, .ref a_16, .ref a_17, .ref a_18, .int i_11, .int i_12, .int i_13, .int i_14, .int i_15, .int i_16, .ref a_19, .int i_17, .ref a_20])), (a_5, .inl (cy 0, 600, .inl f_0))]) (fun (r : Int32) (u : Unit) => ((0 = r) ∨ (1 = r ∧ mm_rg i_0 0 599 ∧ (i_0 : Int32).toInt < (i_2 : Int32).toInt))) 0 0 := by
  refine mm_begin (lv := [(0, .ref a_0), (1, .int i_0), (2, .int 97), (3, .int 122)]) (by decide) (Nat.le_of_ble_eq_true rfl) rfl ?_
  intro p e s m below meth c A ls R args Q H locs hRe hQ hAe hx hb hr hlocks hml hown hnm hts hsz hA hS hP hK hD hZ hl
  have hRf : R.frames = 0 := by rw [hRe]
  have hRl : R.locals = 0 := by rw [hRe]
  have hRc : R.cells = 0 := by rw [hRe]
  have hRs : R.slots = 0 := by rw [hRe]
  refine lv_iload_n hx hb dX12_isByte_0 rfl (lv_at hl 1 rfl) ?_
  refine lv_aload_n hx hb dX12_isByte_1 rfl (lv_at hl 0 rfl) ?_
  refine va_get (D := G) (ci := 12) (v := .int i_2) (C := RX12) (T := TX12) (N := 38) hx hb hts (mm_i inlX12) hown hK.1 hP 0 rfl rfl 6 (by decide) (mm_h hts mm_w178) (fun _ h9 => h9) rfl dX12_isByte_2 ?_
  refine lv_icmp_ge (tgt := 32) hx hb dX12_isByte_5 (by decide) (fun c1 => ?_) (fun c1 => ?_)
  · refine lv_iconst (v := 0) hx hb dX12_isByte_32 (by decide) ?_
    subst hAe
    rw [hQ]
    exact W.zret (v := 0) hx hb hr rfl (fun t ht hW => ⟨⟨0, (), rfl, (Or.inl rfl), by rw [ht]; exact hP, hK.warm hW, hD⟩, hS.F ht⟩) hS.2.2 dX12_isByte_33
  · have q2 := mm_ltL (h := 599) (mm_nle c1) h0 h1 (by decide)
    have q3 := mm_ltR (lo := 1) (mm_nle c1) h0 h1 (by decide)
    refine lv_aload_n hx hb dX12_isByte_8 rfl (lv_at hl 0 rfl) ?_
    refine va_get (D := G) (ci := 12) (v := .ref a_5) (C := RX12) (T := TX12) (N := 38) hx hb hts (mm_i inlX12) hown hK.1 hP 0 rfl rfl 5 (by decide) (mm_h hts mm_w146) (fun _ h9 => h9) rfl dX12_isByte_9 ?_
    refine lv_iload_n hx hb dX12_isByte_12 rfl (lv_at hl 1 rfl) ?_
    refine va_bald hx hb hK.1 hP 1 0 rfl rfl (mm_in q2 (by decide)) dX12_isByte_13 ?_
    refine lv_topi (fun v4 ev4 => ?_)
    have rv4 : mm_rg v4 (-128) 127 := mm_eqv ev4 (h2 _)
    refine lv_iload_n hx hb dX12_isByte_14 rfl (lv_at hl 2 rfl) ?_
    refine lv_icmp_lt (tgt := 32) hx hb dX12_isByte_15 (by decide) (fun c5 => ?_) (fun c5 => ?_)
    · have q6 := mm_ltL (h := 96) (mm_lt c5) rv4 mm_k97 (by decide)
      refine lv_iconst (v := 0) hx hb dX12_isByte_32 (by decide) ?_
      subst hAe
      rw [hQ]
      exact W.zret (v := 0) hx hb hr rfl (fun t ht hW => ⟨⟨0, (), rfl, (Or.inl rfl), by rw [ht]; exact hP, hK.warm hW, hD⟩, hS.F ht⟩) hS.2.2 dX12_isByte_33
    · have q7 := mm_leR (mm_nlt c5) mm_k97 rv4
      refine lv_aload_n hx hb dX12_isByte_18 rfl (lv_at hl 0 rfl) ?_
      refine va_get (D := G) (ci := 12) (v := .ref a_5) (C := RX12) (T := TX12) (N := 38) hx hb hts (mm_i inlX12) hown hK.1 hP 0 rfl rfl 5 (by decide) (mm_h hts mm_w146) (fun _ h9 => h9) rfl dX12_isByte_19 ?_
      refine lv_iload_n hx hb dX12_isByte_22 rfl (lv_at hl 1 rfl) ?_
      refine va_bald hx hb hK.1 hP 1 0 rfl rfl (mm_in q2 (by decide)) dX12_isByte_23 ?_
      refine lv_topi (fun v8 ev8 => ?_)
      have rv8 : mm_rg v8 (-128) 127 := mm_eqv ev8 (h2 _)
      obtain rfl : v4 = v8 := ev4.trans ev8.symm
      refine lv_iload_n hx hb dX12_isByte_24 rfl (lv_at hl 3 rfl) ?_
      refine lv_icmp_gt (tgt := 32) hx hb dX12_isByte_25 (by decide) (fun c9 => ?_) (fun c9 => ?_)
      · have q10 := mm_ltR (lo := 123) (mm_lt c9) mm_k122 q7 (by decide)
        refine lv_iconst (v := 0) hx hb dX12_isByte_32 (by decide) ?_
        subst hAe
        rw [hQ]
        exact W.zret (v := 0) hx hb hr rfl (fun t ht hW => ⟨⟨0, (), rfl, (Or.inl rfl), by rw [ht]; exact hP, hK.warm hW, hD⟩, hS.F ht⟩) hS.2.2 dX12_isByte_33
      · have q11 := mm_leL (mm_nlt c9) q7 mm_k122
        refine lv_iconst (v := 1) hx hb dX12_isByte_28 (by decide) ?_
        refine lv_goto (tgt := 33) hx hb dX12_isByte_29 (by decide) ?_
        have w12 : (i_0 : Int32).toInt < (i_2 : Int32).toInt := (mm_nle c1)
        subst hAe
        rw [hQ]
        exact W.zret (v := 1) hx hb hr rfl (fun t ht hW => ⟨⟨1, (), rfl, (Or.inr ⟨rfl, q2, w12⟩), by rw [ht]; exact hP, hK.warm hW, hD⟩, hS.F ht⟩) hS.2.2 dX12_isByte_33

set_option maxHeartbeats 4000000 in
set_option maxRecDepth 100000 in
theorem M22_X12_next (l : Launch) (G : va_G) (cy : Nat → ClassId) (sz : Nat) (a_0 : Nat) (i_0 : Int32) (a_1 : Nat) (a_2 : Nat) (a_3 : Nat) (a_4 : Nat) (a_5 : Nat) (i_1 : Int32) (i_2 : Int32) (i_3 : Int32) (i_4 : Int32) (i_5 : Int32) (j_0 : Int64) (i_6 : Int32) (i_7 : Int32) (i_8 : Int32) (i_9 : Int32) (a_6 : Nat) (a_7 : Nat) (a_8 : Nat) (a_9 : Nat) (a_10 : Nat) (a_11 : Nat) (a_12 : Nat) (a_13 : Nat) (a_14 : Nat) (a_15 : Nat) (a_16 : Nat) (a_17 : Nat) (a_18 : Nat) (i_10 : Int32) (i_11 : Int32) (i_12 : Int32) (i_13 : Int32) (i_14 : Int32) (i_15 : Int32) (a_19 : Nat) (i_16 : Int32) (a_20 : Nat) (f_0 : Nat → Int32) (h0 : mm_rg i_1 0 600) (h1 : mm_rg i_2 0 600) (h2 : mm_rg i_3 0 4) (h3 : mm_rg i_4 0 600) (h4 : mm_ar f_0 (-128) 127) (h5 : (i_2 : Int32).toInt ≤ (i_1 : Int32).toInt)  : mm_CV l yX12_next (mm_ws yX12_next cX12_next 2 (none)) ({ frames := 1, cells := 0, slots := 0, locals := 23 } : Room) G cy sz [(a_0, .inr (12, [.int i_0, .ref a_1, .ref a_2, .ref a_3, .ref a_4, .ref a_5, .int i_1, .int i_2, .int i_3, .int i_4, .int i_5, .long j_0, .int i_6, .int i_7, .int i_8, .int i_9, .ref a_6, .ref a_7, .ref a_8, .ref a_9, .ref a_10, .ref a_11, .ref a_12, .ref a_13, .ref a_14, .ref a_15, .ref a_16, .ref a_17, .ref a_18, .int i_10, .int i_11, .int i_12, .int i_13, .int i_14, .int i_15, .ref a_19, .int i_16, .ref a_20])), (a_5, .inl (cy 0, 600, .inl f_0))] [.ref a_0] (fun u : Int32 × Int32 × Int32 × Int32 × Int64 => [(a_0, .inr (12, [.int i_0, .ref a_1, .ref a_2, .ref a_3, .ref a_4, .ref a_5, .int i_1, .int u.1, .int u.2.1, .int u.2.2.1, .int u.2.2.2.1, .long u.2.2.2.2, .int i_6, .int i_7, .int i_8, .int i_9, .ref a_6, .ref a_7, .ref a_8, .ref a_9, .ref a_10, .ref a_11, .ref a_12, .ref a_13, .ref a_14, .ref a_15, .ref a_16, .ref a_17, .ref a_18, .int i_10, .int i_11, .int i_12, .int i_13, .int i_14, .int i_15, .ref a_19, .int i_16, .ref a_20])), (a_5, .inl (cy 0, 600, .inl f_0))]) (fun u : Int32 × Int32 × Int32 × Int32 × Int64 => mm_rg u.1 0 600 ∧ mm_rg u.2.1 0 4 ∧ mm_rg u.2.2.1 0 600 ∧ (u.2.2.1 : Int32).toInt ≤ (u.1 : Int32).toInt ∧ (u.1 : Int32).toInt ≤ (i_1 : Int32).toInt ∧ mm_tk u.2.1 u.2.2.1 u.1 ∧ (i_2 : Int32).toInt ≤ (u.2.2.1 : Int32).toInt) 0 0 := by
  refine mm_begin (lv := [(0, .ref a_0)]) (by decide) (Nat.le_of_ble_eq_true rfl) rfl ?_
  intro p e s m below meth c A ls R args Q H locs hRe hQ hAe hx hb hr hlocks hml hown hnm hts hsz hA hS hP hK hD hZ hl
  have hRf : R.frames = 1 := by rw [hRe]
  have hRl : R.locals = 23 := by rw [hRe]
  have hRc : R.cells = 0 := by rw [hRe]
  have hRs : R.slots = 0 := by rw [hRe]
  have L0_35 : ∀ (n : Nat) (y0_0_7_33 : Int32), mm_rg y0_0_7_33 0 600 → (y0_0_7_33 : Int32).toInt ≤ (i_1 : Int32).toInt → (i_2 : Int32).toInt ≤ (y0_0_7_33 : Int32).toInt → (600 - y0_0_7_33.toInt).toNat < n → ∀ (H : Heap) (locs : List Loc), va_P G vwCl [(a_0, .inr (12, [.int i_0, .ref a_1, .ref a_2, .ref a_3, .ref a_4, .ref a_5, .int i_1, .int y0_0_7_33, .int i_3, .int i_4, .int i_5, .long j_0, .int i_6, .int i_7, .int i_8, .int i_9, .ref a_6, .ref a_7, .ref a_8, .ref a_9, .ref a_10, .ref a_11, .ref a_12, .ref a_13, .ref a_14, .ref a_15, .ref a_16, .ref a_17, .ref a_18, .int i_10, .int i_11, .int i_12, .int i_13, .int i_14, .int i_15, .ref a_19, .int i_16, .ref a_20])), (a_5, .inl (cy 0, 600, .inl f_0))] H → va_D A [(a_0, .inr (12, [.int i_0, .ref a_1, .ref a_2, .ref a_3, .ref a_4, .ref a_5, .int i_1, .int y0_0_7_33, .int i_3, .int i_4, .int i_5, .long j_0, .int i_6, .int i_7, .int i_8, .int i_9, .ref a_6, .ref a_7, .ref a_8, .ref a_9, .ref a_10, .ref a_11, .ref a_12, .ref a_13, .ref a_14, .ref a_15, .ref a_16, .ref a_17, .ref a_18, .int i_10, .int i_11, .int i_12, .int i_13, .int i_14, .int i_15, .ref a_19, .int i_16, .ref a_20])), (a_5, .inl (cy 0, 600, .inl f_0))] → va_S A s.heap H locs → ∀ (ls : Array Slot), lv_has ls 2 [(0, .ref a_0)] → W p l e R s m args below meth c H locs 0 0 Q (F0 m 0 ls []) := by
    intro n
    induction n with
    | zero => intro y0_0_7_33 ry0_0_7_33 w34 w35 hm; exact absurd hm (Nat.not_lt_zero _)
    | succ n ih0 =>
      intro y0_0_7_33 ry0_0_7_33 w34 w35 hm0 H locs hP hD hS ls hl
      refine lv_aload_n hx hb dX12_next_0 rfl (lv_at hl 0 rfl) ?_
      refine lv_aload_n hx hb dX12_next_1 rfl (lv_at hl 0 rfl) ?_
      refine va_get (D := G) (ci := 12) (v := .int y0_0_7_33) (C := RX12) (T := TX12) (N := 38) hx hb hts (mm_i inlX12) hown hK.1 hP 0 rfl rfl 7 (by decide) (mm_h hts mm_w450) (fun _ h9 => h9) rfl dX12_next_2 ?_
      refine lv_bipush (v := 32) hx hb dX12_next_5 (by decide) ?_
      refine lv_bipush (v := 32) hx hb dX12_next_7 (by decide) ?_
      refine mm_finir (va_runV (As := [.int y0_0_7_33, .int 32, .int 32]) (rest := []) ⟨hx, hb, hml, hown, hts⟩ (M16_X12_isByte l G cy H.size a_0 y0_0_7_33 i_0 a_1 a_2 a_3 a_4 a_5 i_1 y0_0_7_33 i_3 i_4 i_5 j_0 i_6 i_7 i_8 i_9 a_6 a_7 a_8 a_9 a_10 a_11 a_12 a_13 a_14 a_15 a_16 a_17 a_18 i_10 i_11 i_12 i_13 i_14 i_15 a_19 i_16 a_20 f_0 ry0_0_7_33 h0 h4) (cwV 3 hts (mm_gV mm_w463 mm_w464 mm_w465 mm_w5 mm_w466) rfl rfl rfl hd_X12_isByte ⟨by rw [hRf]; exact Nat.le_of_ble_eq_true rfl, by rw [hRl]; exact Nat.le_of_ble_eq_true rfl⟩) (mm_preV hK hZ hS hA hP hD [0, 1] rfl rfl 0 rfl rfl rfl) rfl rfl hl.1 rfl (lv_room (Nat.le_of_ble_eq_true rfl)) dX12_next_9 ⟨by rw [hRc]; exact Nat.le_of_ble_eq_true rfl, by rw [hRs]; exact Nat.le_of_ble_eq_true rfl⟩) hP hD hS hA [0, 1] rfl (fun _ => rfl) ?_
      clear hP hD hS
      clear H locs
      intro v37 _u H locs hw hP hD hS
      rcases hw with rfl | ⟨rfl, w38, w39⟩
      · refine lv_if_ne (tgt := 30) hx hb dX12_next_12 (by decide) (fun c40 => ?_) (fun c40 => ?_)
        · have q41 := mm_neL (lo := 1) (mm_ne c40) mm_k0 mm_k0 (by decide) (by decide)
          exact mm_no q41 (by decide)
        · refine lv_aload_n hx hb dX12_next_15 rfl (lv_at hl 0 rfl) ?_
          refine lv_aload_n hx hb dX12_next_16 rfl (lv_at hl 0 rfl) ?_
          refine va_get (D := G) (ci := 12) (v := .int y0_0_7_33) (C := RX12) (T := TX12) (N := 38) hx hb hts (mm_i inlX12) hown hK.1 hP 0 rfl rfl 7 (by decide) (mm_h hts mm_w450) (fun _ h9 => h9) rfl dX12_next_17 ?_
          refine lv_bipush (v := 10) hx hb dX12_next_20 (by decide) ?_
          refine lv_bipush (v := 10) hx hb dX12_next_22 (by decide) ?_
          refine mm_finir (va_runV (As := [.int y0_0_7_33, .int 10, .int 10]) (rest := []) ⟨hx, hb, hml, hown, hts⟩ (M17_X12_isByte l G cy H.size a_0 y0_0_7_33 i_0 a_1 a_2 a_3 a_4 a_5 i_1 y0_0_7_33 i_3 i_4 i_5 j_0 i_6 i_7 i_8 i_9 a_6 a_7 a_8 a_9 a_10 a_11 a_12 a_13 a_14 a_15 a_16 a_17 a_18 i_10 i_11 i_12 i_13 i_14 i_15 a_19 i_16 a_20 f_0 ry0_0_7_33 h0 h4) (cwV 3 hts (mm_gV mm_w463 mm_w464 mm_w465 mm_w5 mm_w466) rfl rfl rfl hd_X12_isByte ⟨by rw [hRf]; exact Nat.le_of_ble_eq_true rfl, by rw [hRl]; exact Nat.le_of_ble_eq_true rfl⟩) (mm_preV hK hZ hS hA hP hD [0, 1] rfl rfl 0 rfl rfl rfl) rfl rfl hl.1 rfl (lv_room (Nat.le_of_ble_eq_true rfl)) dX12_next_24 ⟨by rw [hRc]; exact Nat.le_of_ble_eq_true rfl, by rw [hRs]; exact Nat.le_of_ble_eq_true rfl⟩) hP hD hS hA [0, 1] rfl (fun _ => rfl) ?_
          clear hP hD hS
          clear H locs
          intro v42 _u H locs hw hP hD hS
          rcases hw with rfl | ⟨rfl, w43, w44⟩
          · refine lv_if_eq (tgt := 43) hx hb dX12_next_27 (by decide) (fun c45 => ?_) (fun c45 => ?_)
            · refine lv_aload_n hx hb dX12_next_43 rfl (lv_at hl 0 rfl) ?_
              refine lv_aload_n hx hb dX12_next_44 rfl (lv_at hl 0 rfl) ?_
              refine va_get (D := G) (ci := 12) (v := .int y0_0_7_33) (C := RX12) (T := TX12) (N := 38) hx hb hts (mm_i inlX12) hown hK.1 hP 0 rfl rfl 7 (by decide) (mm_h hts mm_w450) (fun _ h9 => h9) rfl dX12_next_45 ?_
              refine va_put (D := G) (ci := 12) (v := .int y0_0_7_33) (ty := tyX12 9) (C := RX12) (T := TX12) (N := 38) hx hb hts (mm_i inlX12) tyX12 tyX12_ok nmX12 hown hK.1 hP hD hS 0 rfl rfl 9 (by decide) (mm_h hts mm_w455) (fun _ h9 => h9) rfl (tyX12_ok 9 (by decide)) rfl rfl (Nat.le_of_ble_eq_true rfl) dX12_next_48 ?_
              clear hP hD hS
              clear H locs
              intro H locs (hP : va_P G vwCl [(a_0, .inr (12, [.int i_0, .ref a_1, .ref a_2, .ref a_3, .ref a_4, .ref a_5, .int i_1, .int y0_0_7_33, .int i_3, .int y0_0_7_33, .int i_5, .long j_0, .int i_6, .int i_7, .int i_8, .int i_9, .ref a_6, .ref a_7, .ref a_8, .ref a_9, .ref a_10, .ref a_11, .ref a_12, .ref a_13, .ref a_14, .ref a_15, .ref a_16, .ref a_17, .ref a_18, .int i_10, .int i_11, .int i_12, .int i_13, .int i_14, .int i_15, .ref a_19, .int i_16, .ref a_20])), (a_5, .inl (cy 0, 600, .inl f_0))] H) (hD : va_D A [(a_0, .inr (12, [.int i_0, .ref a_1, .ref a_2, .ref a_3, .ref a_4, .ref a_5, .int i_1, .int y0_0_7_33, .int i_3, .int y0_0_7_33, .int i_5, .long j_0, .int i_6, .int i_7, .int i_8, .int i_9, .ref a_6, .ref a_7, .ref a_8, .ref a_9, .ref a_10, .ref a_11, .ref a_12, .ref a_13, .ref a_14, .ref a_15, .ref a_16, .ref a_17, .ref a_18, .int i_10, .int i_11, .int i_12, .int i_13, .int i_14, .int i_15, .ref a_19, .int i_16, .ref a_20])), (a_5, .inl (cy 0, 600, .inl f_0))]) hS
              refine lv_aload_n hx hb dX12_next_51 rfl (lv_at hl 0 rfl) ?_
              refine lv_iconst (v := 0) hx hb dX12_next_52 (by decide) ?_
              refine va_put (D := G) (ci := 12) (v := .int 0) (ty := tyX12 10) (C := RX12) (T := TX12) (N := 38) hx hb hts (mm_i inlX12) tyX12 tyX12_ok nmX12 hown hK.1 hP hD hS 0 rfl rfl 10 (by decide) (mm_h hts mm_w456) (fun _ h9 => h9) rfl (tyX12_ok 10 (by decide)) rfl rfl (Nat.le_of_ble_eq_true rfl) dX12_next_53 ?_
              clear hP hD hS
              clear H locs
              intro H locs (hP : va_P G vwCl [(a_0, .inr (12, [.int i_0, .ref a_1, .ref a_2, .ref a_3, .ref a_4, .ref a_5, .int i_1, .int y0_0_7_33, .int i_3, .int y0_0_7_33, .int 0, .long j_0, .int i_6, .int i_7, .int i_8, .int i_9, .ref a_6, .ref a_7, .ref a_8, .ref a_9, .ref a_10, .ref a_11, .ref a_12, .ref a_13, .ref a_14, .ref a_15, .ref a_16, .ref a_17, .ref a_18, .int i_10, .int i_11, .int i_12, .int i_13, .int i_14, .int i_15, .ref a_19, .int i_16, .ref a_20])), (a_5, .inl (cy 0, 600, .inl f_0))] H) (hD : va_D A [(a_0, .inr (12, [.int i_0, .ref a_1, .ref a_2, .ref a_3, .ref a_4, .ref a_5, .int i_1, .int y0_0_7_33, .int i_3, .int y0_0_7_33, .int 0, .long j_0, .int i_6, .int i_7, .int i_8, .int i_9, .ref a_6, .ref a_7, .ref a_8, .ref a_9, .ref a_10, .ref a_11, .ref a_12, .ref a_13, .ref a_14, .ref a_15, .ref a_16, .ref a_17, .ref a_18, .int i_10, .int i_11, .int i_12, .int i_13, .int i_14, .int i_15, .ref a_19, .int i_16, .ref a_20])), (a_5, .inl (cy 0, 600, .inl f_0))]) hS
              refine lv_aload_n hx hb dX12_next_56 rfl (lv_at hl 0 rfl) ?_
              refine lv_lconst (v := 0) hx hb dX12_next_57 (by decide) ?_
              refine va_put (D := G) (ci := 12) (v := .long 0) (ty := tyX12 11) (C := RX12) (T := TX12) (N := 38) hx hb hts (mm_i inlX12) tyX12 tyX12_ok nmX12 hown hK.1 hP hD hS 0 rfl rfl 11 (by decide) (mm_h hts mm_w457) (fun _ h9 => h9) rfl (tyX12_ok 11 (by decide)) rfl rfl (Nat.le_of_ble_eq_true rfl) dX12_next_58 ?_
              clear hP hD hS
              clear H locs
              intro H locs (hP : va_P G vwCl [(a_0, .inr (12, [.int i_0, .ref a_1, .ref a_2, .ref a_3, .ref a_4, .ref a_5, .int i_1, .int y0_0_7_33, .int i_3, .int y0_0_7_33, .int 0, .long 0, .int i_6, .int i_7, .int i_8, .int i_9, .ref a_6, .ref a_7, .ref a_8, .ref a_9, .ref a_10, .ref a_11, .ref a_12, .ref a_13, .ref a_14, .ref a_15, .ref a_16, .ref a_17, .ref a_18, .int i_10, .int i_11, .int i_12, .int i_13, .int i_14, .int i_15, .ref a_19, .int i_16, .ref a_20])), (a_5, .inl (cy 0, 600, .inl f_0))] H) (hD : va_D A [(a_0, .inr (12, [.int i_0, .ref a_1, .ref a_2, .ref a_3, .ref a_4, .ref a_5, .int i_1, .int y0_0_7_33, .int i_3, .int y0_0_7_33, .int 0, .long 0, .int i_6, .int i_7, .int i_8, .int i_9, .ref a_6, .ref a_7, .ref a_8, .ref a_9, .ref a_10, .ref a_11, .ref a_12, .ref a_13, .ref a_14, .ref a_15, .ref a_16, .ref a_17, .ref a_18, .int i_10, .int i_11, .int i_12, .int i_13, .int i_14, .int i_15, .ref a_19, .int i_16, .ref a_20])), (a_5, .inl (cy 0, 600, .inl f_0))]) hS
              refine lv_aload_n hx hb dX12_next_61 rfl (lv_at hl 0 rfl) ?_
              refine va_get (D := G) (ci := 12) (v := .int y0_0_7_33) (C := RX12) (T := TX12) (N := 38) hx hb hts (mm_i inlX12) hown hK.1 hP 0 rfl rfl 7 (by decide) (mm_h hts mm_w450) (fun _ h9 => h9) rfl dX12_next_62 ?_
              refine lv_aload_n hx hb dX12_next_65 rfl (lv_at hl 0 rfl) ?_
              refine va_get (D := G) (ci := 12) (v := .int i_1) (C := RX12) (T := TX12) (N := 38) hx hb hts (mm_i inlX12) hown hK.1 hP 0 rfl rfl 6 (by decide) (mm_h hts mm_w178) (fun _ h9 => h9) rfl dX12_next_66 ?_
              refine lv_icmp_ne (tgt := 80) hx hb dX12_next_69 (by decide) (fun c46 => ?_) (fun c46 => ?_)
              · have w47 := mm_ltne w34 (mm_ne c46)
                have q48 := mm_ltL (h := 599) w47 ry0_0_7_33 h0 (by decide)
                have q49 := mm_ltR (lo := 1) w47 ry0_0_7_33 h0 (by decide)
                have q50 := mm_leL w35 h1 q48
                refine lv_aload_n hx hb dX12_next_80 rfl (lv_at hl 0 rfl) ?_
                refine lv_aload_n hx hb dX12_next_81 rfl (lv_at hl 0 rfl) ?_
                refine va_get (D := G) (ci := 12) (v := .int y0_0_7_33) (C := RX12) (T := TX12) (N := 38) hx hb hts (mm_i inlX12) hown hK.1 hP 0 rfl rfl 7 (by decide) (mm_h hts mm_w450) (fun _ h9 => h9) rfl dX12_next_82 ?_
                refine lv_bipush (v := 97) hx hb dX12_next_85 (by decide) ?_
                refine lv_bipush (v := 122) hx hb dX12_next_87 (by decide) ?_
                refine mm_finir (va_runV (As := [.int y0_0_7_33, .int 97, .int 122]) (rest := []) ⟨hx, hb, hml, hown, hts⟩ (M18_X12_isByte l G cy H.size a_0 y0_0_7_33 i_0 a_1 a_2 a_3 a_4 a_5 i_1 y0_0_7_33 i_3 y0_0_7_33 0 0 i_6 i_7 i_8 i_9 a_6 a_7 a_8 a_9 a_10 a_11 a_12 a_13 a_14 a_15 a_16 a_17 a_18 i_10 i_11 i_12 i_13 i_14 i_15 a_19 i_16 a_20 f_0 q48 (mm_wk q49 (by decide)) h4) (cwV 3 hts (mm_gV mm_w463 mm_w464 mm_w465 mm_w5 mm_w466) rfl rfl rfl hd_X12_isByte ⟨by rw [hRf]; exact Nat.le_of_ble_eq_true rfl, by rw [hRl]; exact Nat.le_of_ble_eq_true rfl⟩) (mm_preV hK hZ hS hA hP hD [0, 1] rfl rfl 0 rfl rfl rfl) rfl rfl hl.1 rfl (lv_room (Nat.le_of_ble_eq_true rfl)) dX12_next_89 ⟨by rw [hRc]; exact Nat.le_of_ble_eq_true rfl, by rw [hRs]; exact Nat.le_of_ble_eq_true rfl⟩) hP hD hS hA [0, 1] rfl (fun _ => rfl) ?_
                clear hP hD hS
                clear H locs
                intro v51 _u H locs hw hP hD hS
                rcases hw with rfl | ⟨rfl, w52⟩
                · refine lv_if_eq (tgt := 188) hx hb dX12_next_92 (by decide) (fun c53 => ?_) (fun c53 => ?_)
                  · refine lv_aload_n hx hb dX12_next_188 rfl (lv_at hl 0 rfl) ?_
                    refine lv_aload_n hx hb dX12_next_189 rfl (lv_at hl 0 rfl) ?_
                    refine va_get (D := G) (ci := 12) (v := .int y0_0_7_33) (C := RX12) (T := TX12) (N := 38) hx hb hts (mm_i inlX12) hown hK.1 hP 0 rfl rfl 7 (by decide) (mm_h hts mm_w450) (fun _ h9 => h9) rfl dX12_next_190 ?_
                    refine lv_bipush (v := 48) hx hb dX12_next_193 (by decide) ?_
                    refine lv_bipush (v := 57) hx hb dX12_next_195 (by decide) ?_
                    refine mm_finir (va_runV (As := [.int y0_0_7_33, .int 48, .int 57]) (rest := []) ⟨hx, hb, hml, hown, hts⟩ (M19_X12_isByte l G cy H.size a_0 y0_0_7_33 i_0 a_1 a_2 a_3 a_4 a_5 i_1 y0_0_7_33 i_3 y0_0_7_33 0 0 i_6 i_7 i_8 i_9 a_6 a_7 a_8 a_9 a_10 a_11 a_12 a_13 a_14 a_15 a_16 a_17 a_18 i_10 i_11 i_12 i_13 i_14 i_15 a_19 i_16 a_20 f_0 q48 (mm_wk q49 (by decide)) h4) (cwV 3 hts (mm_gV mm_w463 mm_w464 mm_w465 mm_w5 mm_w466) rfl rfl rfl hd_X12_isByte ⟨by rw [hRf]; exact Nat.le_of_ble_eq_true rfl, by rw [hRl]; exact Nat.le_of_ble_eq_true rfl⟩) (mm_preV hK hZ hS hA hP hD [0, 1] rfl rfl 0 rfl rfl rfl) rfl rfl hl.1 rfl (lv_room (Nat.le_of_ble_eq_true rfl)) dX12_next_197 ⟨by rw [hRc]; exact Nat.le_of_ble_eq_true rfl, by rw [hRs]; exact Nat.le_of_ble_eq_true rfl⟩) hP hD hS hA [0, 1] rfl (fun _ => rfl) ?_
                    clear hP hD hS
                    clear H locs
                    intro v54 _u H locs hw hP hD hS
                    rcases hw with rfl | ⟨rfl, w55⟩
                    · refine lv_if_eq (tgt := 274) hx hb dX12_next_200 (by decide) (fun c56 => ?_) (fun c56 => ?_)
                      · refine lv_aload_n hx hb dX12_next_274 rfl (lv_at hl 0 rfl) ?_
                        refine lv_aload_n hx hb dX12_next_275 rfl (lv_at hl 0 rfl) ?_
                        refine va_get (D := G) (ci := 12) (v := .ref a_5) (C := RX12) (T := TX12) (N := 38) hx hb hts (mm_i inlX12) hown hK.1 hP 0 rfl rfl 5 (by decide) (mm_h hts mm_w146) (fun _ h9 => h9) rfl dX12_next_276 ?_
                        refine lv_aload_n hx hb dX12_next_279 rfl (lv_at hl 0 rfl) ?_
                        refine va_get (D := G) (ci := 12) (v := .int y0_0_7_33) (C := RX12) (T := TX12) (N := 38) hx hb hts (mm_i inlX12) hown hK.1 hP 0 rfl rfl 7 (by decide) (mm_h hts mm_w450) (fun _ h9 => h9) rfl dX12_next_280 ?_
                        refine va_bald hx hb hK.1 hP 1 0 rfl rfl (mm_in q48 (by decide)) dX12_next_283 ?_
                        refine lv_topi (fun v57 ev57 => ?_)
                        have rv57 : mm_rg v57 (-128) 127 := mm_eqv ev57 (h4 _)
                        refine lv_bipush (v := 59) hx hb dX12_next_284 (by decide) ?_
                        refine lv_icmp_ne (tgt := 293) hx hb dX12_next_286 (by decide) (fun c58 => ?_) (fun c58 => ?_)
                        · refine lv_iconst (v := 4) hx hb dX12_next_293 (by decide) ?_
                          refine va_put (D := G) (ci := 12) (v := .int 4) (ty := tyX12 8) (C := RX12) (T := TX12) (N := 38) hx hb hts (mm_i inlX12) tyX12 tyX12_ok nmX12 hown hK.1 hP hD hS 0 rfl rfl 8 (by decide) (mm_h hts mm_w432) (fun _ h9 => h9) rfl (tyX12_ok 8 (by decide)) rfl rfl (Nat.le_of_ble_eq_true rfl) dX12_next_294 ?_
                          clear hP hD hS
                          clear H locs
                          intro H locs (hP : va_P G vwCl [(a_0, .inr (12, [.int i_0, .ref a_1, .ref a_2, .ref a_3, .ref a_4, .ref a_5, .int i_1, .int y0_0_7_33, .int 4, .int y0_0_7_33, .int 0, .long 0, .int i_6, .int i_7, .int i_8, .int i_9, .ref a_6, .ref a_7, .ref a_8, .ref a_9, .ref a_10, .ref a_11, .ref a_12, .ref a_13, .ref a_14, .ref a_15, .ref a_16, .ref a_17, .ref a_18, .int i_10, .int i_11, .int i_12, .int i_13, .int i_14, .int i_15, .ref a_19, .int i_16, .ref a_20])), (a_5, .inl (cy 0, 600, .inl f_0))] H) (hD : va_D A [(a_0, .inr (12, [.int i_0, .ref a_1, .ref a_2, .ref a_3, .ref a_4, .ref a_5, .int i_1, .int y0_0_7_33, .int 4, .int y0_0_7_33, .int 0, .long 0, .int i_6, .int i_7, .int i_8, .int i_9, .ref a_6, .ref a_7, .ref a_8, .ref a_9, .ref a_10, .ref a_11, .ref a_12, .ref a_13, .ref a_14, .ref a_15, .ref a_16, .ref a_17, .ref a_18, .int i_10, .int i_11, .int i_12, .int i_13, .int i_14, .int i_15, .ref a_19, .int i_16, .ref a_20])), (a_5, .inl (cy 0, 600, .inl f_0))]) hS
                          refine lv_aload_n hx hb dX12_next_297 rfl (lv_at hl 0 rfl) ?_
                          refine lv_dup hx hb dX12_next_298 rfl ?_
                          refine va_get (D := G) (ci := 12) (v := .int y0_0_7_33) (C := RX12) (T := TX12) (N := 38) hx hb hts (mm_i inlX12) hown hK.1 hP 0 rfl rfl 7 (by decide) (mm_h hts mm_w450) (fun _ h9 => h9) rfl dX12_next_299 ?_
                          refine lv_iconst (v := 1) hx hb dX12_next_302 (by decide) ?_
                          refine lv_iadd hx hb dX12_next_303 ?_
                          refine lv_topi (fun v59 ev59 => ?_)
                          have rv59 : mm_rg v59 1 600 := mm_add ev59 q48 mm_k1 (by decide) (by decide)
                          have tv59 := mm_addEc ev59 q48 mm_k1 (by decide) (k := 1) (by decide)
                          refine va_put (D := G) (ci := 12) (v := .int v59) (ty := tyX12 7) (C := RX12) (T := TX12) (N := 38) hx hb hts (mm_i inlX12) tyX12 tyX12_ok nmX12 hown hK.1 hP hD hS 0 rfl rfl 7 (by decide) (mm_h hts mm_w450) (fun _ h9 => h9) rfl (tyX12_ok 7 (by decide)) rfl rfl (Nat.le_of_ble_eq_true rfl) dX12_next_304 ?_
                          clear hP hD hS
                          clear H locs
                          intro H locs (hP : va_P G vwCl [(a_0, .inr (12, [.int i_0, .ref a_1, .ref a_2, .ref a_3, .ref a_4, .ref a_5, .int i_1, .int v59, .int 4, .int y0_0_7_33, .int 0, .long 0, .int i_6, .int i_7, .int i_8, .int i_9, .ref a_6, .ref a_7, .ref a_8, .ref a_9, .ref a_10, .ref a_11, .ref a_12, .ref a_13, .ref a_14, .ref a_15, .ref a_16, .ref a_17, .ref a_18, .int i_10, .int i_11, .int i_12, .int i_13, .int i_14, .int i_15, .ref a_19, .int i_16, .ref a_20])), (a_5, .inl (cy 0, 600, .inl f_0))] H) (hD : va_D A [(a_0, .inr (12, [.int i_0, .ref a_1, .ref a_2, .ref a_3, .ref a_4, .ref a_5, .int i_1, .int v59, .int 4, .int y0_0_7_33, .int 0, .long 0, .int i_6, .int i_7, .int i_8, .int i_9, .ref a_6, .ref a_7, .ref a_8, .ref a_9, .ref a_10, .ref a_11, .ref a_12, .ref a_13, .ref a_14, .ref a_15, .ref a_16, .ref a_17, .ref a_18, .int i_10, .int i_11, .int i_12, .int i_13, .int i_14, .int i_15, .ref a_19, .int i_16, .ref a_20])), (a_5, .inl (cy 0, 600, .inl f_0))]) hS
                          have w60 : (y0_0_7_33 : Int32).toInt ≤ (v59 : Int32).toInt := (by have := tv59; omega)
                          have w61 : (v59 : Int32).toInt ≤ (i_1 : Int32).toInt := (by have := tv59; have := w47; omega)
                          have w62 : mm_tk 4 y0_0_7_33 v59 := (Or.inr (by have := tv59; omega))
                          subst hAe
                          rw [hQ]
                          exact W.vret hx hb hr (fun t ht hW => ⟨⟨(v59, 4, y0_0_7_33, 0, 0), rfl, ⟨(mm_wk rv59 (by decide)), (mm_wk mm_k4 (by decide)), (mm_wk q48 (by decide)), w60, w61, w62, w35⟩, by rw [ht]; exact hP, hK.warm hW, hD⟩, hS.F ht⟩) hS.2.2 dX12_next_307
                        · have q63 := mm_eqI (lo := 59) (hi := 59) c58 rv57 mm_k59 (by decide)
                          refine lv_iconst (v := 3) hx hb dX12_next_289 (by decide) ?_
                          refine lv_goto (tgt := 294) hx hb dX12_next_290 (by decide) ?_
                          refine va_put (D := G) (ci := 12) (v := .int 3) (ty := tyX12 8) (C := RX12) (T := TX12) (N := 38) hx hb hts (mm_i inlX12) tyX12 tyX12_ok nmX12 hown hK.1 hP hD hS 0 rfl rfl 8 (by decide) (mm_h hts mm_w432) (fun _ h9 => h9) rfl (tyX12_ok 8 (by decide)) rfl rfl (Nat.le_of_ble_eq_true rfl) dX12_next_294 ?_
                          clear hP hD hS
                          clear H locs
                          intro H locs (hP : va_P G vwCl [(a_0, .inr (12, [.int i_0, .ref a_1, .ref a_2, .ref a_3, .ref a_4, .ref a_5, .int i_1, .int y0_0_7_33, .int 3, .int y0_0_7_33, .int 0, .long 0, .int i_6, .int i_7, .int i_8, .int i_9, .ref a_6, .ref a_7, .ref a_8, .ref a_9, .ref a_10, .ref a_11, .ref a_12, .ref a_13, .ref a_14, .ref a_15, .ref a_16, .ref a_17, .ref a_18, .int i_10, .int i_11, .int i_12, .int i_13, .int i_14, .int i_15, .ref a_19, .int i_16, .ref a_20])), (a_5, .inl (cy 0, 600, .inl f_0))] H) (hD : va_D A [(a_0, .inr (12, [.int i_0, .ref a_1, .ref a_2, .ref a_3, .ref a_4, .ref a_5, .int i_1, .int y0_0_7_33, .int 3, .int y0_0_7_33, .int 0, .long 0, .int i_6, .int i_7, .int i_8, .int i_9, .ref a_6, .ref a_7, .ref a_8, .ref a_9, .ref a_10, .ref a_11, .ref a_12, .ref a_13, .ref a_14, .ref a_15, .ref a_16, .ref a_17, .ref a_18, .int i_10, .int i_11, .int i_12, .int i_13, .int i_14, .int i_15, .ref a_19, .int i_16, .ref a_20])), (a_5, .inl (cy 0, 600, .inl f_0))]) hS
                          refine lv_aload_n hx hb dX12_next_297 rfl (lv_at hl 0 rfl) ?_
                          refine lv_dup hx hb dX12_next_298 rfl ?_
                          refine va_get (D := G) (ci := 12) (v := .int y0_0_7_33) (C := RX12) (T := TX12) (N := 38) hx hb hts (mm_i inlX12) hown hK.1 hP 0 rfl rfl 7 (by decide) (mm_h hts mm_w450) (fun _ h9 => h9) rfl dX12_next_299 ?_
                          refine lv_iconst (v := 1) hx hb dX12_next_302 (by decide) ?_
                          refine lv_iadd hx hb dX12_next_303 ?_
                          refine lv_topi (fun v64 ev64 => ?_)
                          have rv64 : mm_rg v64 1 600 := mm_add ev64 q48 mm_k1 (by decide) (by decide)
                          have tv64 := mm_addEc ev64 q48 mm_k1 (by decide) (k := 1) (by decide)
                          refine va_put (D := G) (ci := 12) (v := .int v64) (ty := tyX12 7) (C := RX12) (T := TX12) (N := 38) hx hb hts (mm_i inlX12) tyX12 tyX12_ok nmX12 hown hK.1 hP hD hS 0 rfl rfl 7 (by decide) (mm_h hts mm_w450) (fun _ h9 => h9) rfl (tyX12_ok 7 (by decide)) rfl rfl (Nat.le_of_ble_eq_true rfl) dX12_next_304 ?_
                          clear hP hD hS
                          clear H locs
                          intro H locs (hP : va_P G vwCl [(a_0, .inr (12, [.int i_0, .ref a_1, .ref a_2, .ref a_3, .ref a_4, .ref a_5, .int i_1, .int v64, .int 3, .int y0_0_7_33, .int 0, .long 0, .int i_6, .int i_7, .int i_8, .int i_9, .ref a_6, .ref a_7, .ref a_8, .ref a_9, .ref a_10, .ref a_11, .ref a_12, .ref a_13, .ref a_14, .ref a_15, .ref a_16, .ref a_17, .ref a_18, .int i_10, .int i_11, .int i_12, .int i_13, .int i_14, .int i_15, .ref a_19, .int i_16, .ref a_20])), (a_5, .inl (cy 0, 600, .inl f_0))] H) (hD : va_D A [(a_0, .inr (12, [.int i_0, .ref a_1, .ref a_2, .ref a_3, .ref a_4, .ref a_5, .int i_1, .int v64, .int 3, .int y0_0_7_33, .int 0, .long 0, .int i_6, .int i_7, .int i_8, .int i_9, .ref a_6, .ref a_7, .ref a_8, .ref a_9, .ref a_10, .ref a_11, .ref a_12, .ref a_13, .ref a_14, .ref a_15, .ref a_16, .ref a_17, .ref a_18, .int i_10, .int i_11, .int i_12, .int i_13, .int i_14, .int i_15, .ref a_19, .int i_16, .ref a_20])), (a_5, .inl (cy 0, 600, .inl f_0))]) hS
                          have w65 : (y0_0_7_33 : Int32).toInt ≤ (v64 : Int32).toInt := (by have := tv64; omega)
                          have w66 : (v64 : Int32).toInt ≤ (i_1 : Int32).toInt := (by have := tv64; have := w47; omega)
                          have w67 : mm_tk 3 y0_0_7_33 v64 := (Or.inr (by have := tv64; omega))
                          subst hAe
                          rw [hQ]
                          exact W.vret hx hb hr (fun t ht hW => ⟨⟨(v64, 3, y0_0_7_33, 0, 0), rfl, ⟨(mm_wk rv64 (by decide)), (mm_wk mm_k3 (by decide)), (mm_wk q48 (by decide)), w65, w66, w67, w35⟩, by rw [ht]; exact hP, hK.warm hW, hD⟩, hS.F ht⟩) hS.2.2 dX12_next_307
                      · have q68 := mm_neL (lo := 1) (mm_ne c56) mm_k0 mm_k0 (by decide) (by decide)
                        exact mm_no q68 (by decide)
                    · refine lv_if_eq (tgt := 274) hx hb dX12_next_200 (by decide) (fun c69 => ?_) (fun c69 => ?_)
                      · exact mm_eqN c69.symm mm_k0 mm_k1 (by decide)
                      · refine lv_aload_n hx hb dX12_next_203 rfl (lv_at hl 0 rfl) ?_
                        refine lv_iconst (v := 2) hx hb dX12_next_204 (by decide) ?_
                        refine va_put (D := G) (ci := 12) (v := .int 2) (ty := tyX12 8) (C := RX12) (T := TX12) (N := 38) hx hb hts (mm_i inlX12) tyX12 tyX12_ok nmX12 hown hK.1 hP hD hS 0 rfl rfl 8 (by decide) (mm_h hts mm_w432) (fun _ h9 => h9) rfl (tyX12_ok 8 (by decide)) rfl rfl (Nat.le_of_ble_eq_true rfl) dX12_next_205 ?_
                        clear hP hD hS
                        clear H locs
                        intro H locs (hP : va_P G vwCl [(a_0, .inr (12, [.int i_0, .ref a_1, .ref a_2, .ref a_3, .ref a_4, .ref a_5, .int i_1, .int y0_0_7_33, .int 2, .int y0_0_7_33, .int 0, .long 0, .int i_6, .int i_7, .int i_8, .int i_9, .ref a_6, .ref a_7, .ref a_8, .ref a_9, .ref a_10, .ref a_11, .ref a_12, .ref a_13, .ref a_14, .ref a_15, .ref a_16, .ref a_17, .ref a_18, .int i_10, .int i_11, .int i_12, .int i_13, .int i_14, .int i_15, .ref a_19, .int i_16, .ref a_20])), (a_5, .inl (cy 0, 600, .inl f_0))] H) (hD : va_D A [(a_0, .inr (12, [.int i_0, .ref a_1, .ref a_2, .ref a_3, .ref a_4, .ref a_5, .int i_1, .int y0_0_7_33, .int 2, .int y0_0_7_33, .int 0, .long 0, .int i_6, .int i_7, .int i_8, .int i_9, .ref a_6, .ref a_7, .ref a_8, .ref a_9, .ref a_10, .ref a_11, .ref a_12, .ref a_13, .ref a_14, .ref a_15, .ref a_16, .ref a_17, .ref a_18, .int i_10, .int i_11, .int i_12, .int i_13, .int i_14, .int i_15, .ref a_19, .int i_16, .ref a_20])), (a_5, .inl (cy 0, 600, .inl f_0))]) hS
                        have L208_125 : ∀ (n : Nat) (y208_0_7_122 : Int32) (y208_0_10_123 : Int32), mm_rg y208_0_7_122 0 600 → (y208_0_7_122 : Int32).toInt ≤ (i_1 : Int32).toInt → (y0_0_7_33 : Int32).toInt ≤ (y208_0_7_122 : Int32).toInt → (600 - y208_0_7_122.toInt).toNat < n → ∀ (H : Heap) (locs : List Loc), va_P G vwCl [(a_0, .inr (12, [.int i_0, .ref a_1, .ref a_2, .ref a_3, .ref a_4, .ref a_5, .int i_1, .int y208_0_7_122, .int 2, .int y0_0_7_33, .int y208_0_10_123, .long 0, .int i_6, .int i_7, .int i_8, .int i_9, .ref a_6, .ref a_7, .ref a_8, .ref a_9, .ref a_10, .ref a_11, .ref a_12, .ref a_13, .ref a_14, .ref a_15, .ref a_16, .ref a_17, .ref a_18, .int i_10, .int i_11, .int i_12, .int i_13, .int i_14, .int i_15, .ref a_19, .int i_16, .ref a_20])), (a_5, .inl (cy 0, 600, .inl f_0))] H → va_D A [(a_0, .inr (12, [.int i_0, .ref a_1, .ref a_2, .ref a_3, .ref a_4, .ref a_5, .int i_1, .int y208_0_7_122, .int 2, .int y0_0_7_33, .int y208_0_10_123, .long 0, .int i_6, .int i_7, .int i_8, .int i_9, .ref a_6, .ref a_7, .ref a_8, .ref a_9, .ref a_10, .ref a_11, .ref a_12, .ref a_13, .ref a_14, .ref a_15, .ref a_16, .ref a_17, .ref a_18, .int i_10, .int i_11, .int i_12, .int i_13, .int i_14, .int i_15, .ref a_19, .int i_16, .ref a_20])), (a_5, .inl (cy 0, 600, .inl f_0))] → va_S A s.heap H locs → ∀ (ls : Array Slot), lv_has ls 2 [(0, .ref a_0)] → W p l e R s m args below meth c H locs 0 0 Q (F0 m 208 ls []) := by
                          intro n
                          induction n with
                          | zero => intro y208_0_7_122 y208_0_10_123 ry208_0_7_122 w124 w125 hm; exact absurd hm (Nat.not_lt_zero _)
                          | succ n ih208 =>
                            intro y208_0_7_122 y208_0_10_123 ry208_0_7_122 w124 w125 hm208 H locs hP hD hS ls hl
                            refine lv_aload_n hx hb dX12_next_208 rfl (lv_at hl 0 rfl) ?_
                            refine lv_aload_n hx hb dX12_next_209 rfl (lv_at hl 0 rfl) ?_
                            refine va_get (D := G) (ci := 12) (v := .int y208_0_7_122) (C := RX12) (T := TX12) (N := 38) hx hb hts (mm_i inlX12) hown hK.1 hP 0 rfl rfl 7 (by decide) (mm_h hts mm_w450) (fun _ h9 => h9) rfl dX12_next_210 ?_
                            refine lv_bipush (v := 48) hx hb dX12_next_213 (by decide) ?_
                            refine lv_bipush (v := 57) hx hb dX12_next_215 (by decide) ?_
                            refine mm_finir (va_runV (As := [.int y208_0_7_122, .int 48, .int 57]) (rest := []) ⟨hx, hb, hml, hown, hts⟩ (M20_X12_isByte l G cy H.size a_0 y208_0_7_122 i_0 a_1 a_2 a_3 a_4 a_5 i_1 y208_0_7_122 2 y0_0_7_33 y208_0_10_123 0 i_6 i_7 i_8 i_9 a_6 a_7 a_8 a_9 a_10 a_11 a_12 a_13 a_14 a_15 a_16 a_17 a_18 i_10 i_11 i_12 i_13 i_14 i_15 a_19 i_16 a_20 f_0 ry208_0_7_122 (mm_wk q49 (by decide)) h4) (cwV 3 hts (mm_gV mm_w463 mm_w464 mm_w465 mm_w5 mm_w466) rfl rfl rfl hd_X12_isByte ⟨by rw [hRf]; exact Nat.le_of_ble_eq_true rfl, by rw [hRl]; exact Nat.le_of_ble_eq_true rfl⟩) (mm_preV hK hZ hS hA hP hD [0, 1] rfl rfl 0 rfl rfl rfl) rfl rfl hl.1 rfl (lv_room (Nat.le_of_ble_eq_true rfl)) dX12_next_217 ⟨by rw [hRc]; exact Nat.le_of_ble_eq_true rfl, by rw [hRs]; exact Nat.le_of_ble_eq_true rfl⟩) hP hD hS hA [0, 1] rfl (fun _ => rfl) ?_
                            clear hP hD hS
                            clear H locs
                            intro v127 _u H locs hw hP hD hS
                            rcases hw with rfl | ⟨rfl, w128, w129⟩
                            · refine lv_if_eq (tgt := 307) hx hb dX12_next_220 (by decide) (fun c130 => ?_) (fun c130 => ?_)
                              · have w131 : mm_tk 2 y0_0_7_33 y208_0_7_122 := (mm_tk1 mm_k2 (by decide))
                                subst hAe
                                rw [hQ]
                                exact W.vret hx hb hr (fun t ht hW => ⟨⟨(y208_0_7_122, 2, y0_0_7_33, y208_0_10_123, 0), rfl, ⟨ry208_0_7_122, (mm_wk mm_k2 (by decide)), (mm_wk q48 (by decide)), w125, w124, w131, w35⟩, by rw [ht]; exact hP, hK.warm hW, hD⟩, hS.F ht⟩) hS.2.2 dX12_next_307
                              · have q132 := mm_neL (lo := 1) (mm_ne c130) mm_k0 mm_k0 (by decide) (by decide)
                                exact mm_no q132 (by decide)
                            · refine lv_if_eq (tgt := 307) hx hb dX12_next_220 (by decide) (fun c133 => ?_) (fun c133 => ?_)
                              · exact mm_eqN c133.symm mm_k0 mm_k1 (by decide)
                              · refine lv_aload_n hx hb dX12_next_223 rfl (lv_at hl 0 rfl) ?_
                                refine lv_aload_n hx hb dX12_next_224 rfl (lv_at hl 0 rfl) ?_
                                refine va_get (D := G) (ci := 12) (v := .int y208_0_10_123) (C := RX12) (T := TX12) (N := 38) hx hb hts (mm_i inlX12) hown hK.1 hP 0 rfl rfl 10 (by decide) (mm_h hts mm_w456) (fun _ h9 => h9) rfl dX12_next_225 ?_
                                refine lv_ldc (v := 100000) hx hb hown (mm_h hts mm_w461) dX12_next_228 ?_
                                refine lv_icmp_le (tgt := 238) hx hb dX12_next_230 (by decide) (fun c134 => ?_) (fun c134 => ?_)
                                · have q135 := mm_leL (mm_le c134) (mm_top y208_0_10_123) mm_k100000
                                  refine lv_bipush (v := 10) hx hb dX12_next_238 (by decide) ?_
                                  refine lv_aload_n hx hb dX12_next_240 rfl (lv_at hl 0 rfl) ?_
                                  refine va_get (D := G) (ci := 12) (v := .int y208_0_10_123) (C := RX12) (T := TX12) (N := 38) hx hb hts (mm_i inlX12) hown hK.1 hP 0 rfl rfl 10 (by decide) (mm_h hts mm_w456) (fun _ h9 => h9) rfl dX12_next_241 ?_
                                  refine lv_imul hx hb dX12_next_244 ?_
                                  refine lv_topi (fun v136 ev136 => ?_)
                                  refine lv_aload_n hx hb dX12_next_245 rfl (lv_at hl 0 rfl) ?_
                                  refine va_get (D := G) (ci := 12) (v := .ref a_5) (C := RX12) (T := TX12) (N := 38) hx hb hts (mm_i inlX12) hown hK.1 hP 0 rfl rfl 5 (by decide) (mm_h hts mm_w146) (fun _ h9 => h9) rfl dX12_next_246 ?_
                                  refine lv_aload_n hx hb dX12_next_249 rfl (lv_at hl 0 rfl) ?_
                                  refine va_get (D := G) (ci := 12) (v := .int y208_0_7_122) (C := RX12) (T := TX12) (N := 38) hx hb hts (mm_i inlX12) hown hK.1 hP 0 rfl rfl 7 (by decide) (mm_h hts mm_w450) (fun _ h9 => h9) rfl dX12_next_250 ?_
                                  refine va_bald hx hb hK.1 hP 1 0 rfl rfl (mm_in w128 (by decide)) dX12_next_253 ?_
                                  refine lv_topi (fun v137 ev137 => ?_)
                                  have rv137 : mm_rg v137 (-128) 127 := mm_eqv ev137 (h4 _)
                                  refine lv_iadd hx hb dX12_next_254 ?_
                                  refine lv_topi (fun v138 ev138 => ?_)
                                  refine lv_bipush (v := 48) hx hb dX12_next_255 (by decide) ?_
                                  refine lv_isub hx hb dX12_next_257 ?_
                                  refine lv_topi (fun v139 ev139 => ?_)
                                  refine va_put (D := G) (ci := 12) (v := .int v139) (ty := tyX12 10) (C := RX12) (T := TX12) (N := 38) hx hb hts (mm_i inlX12) tyX12 tyX12_ok nmX12 hown hK.1 hP hD hS 0 rfl rfl 10 (by decide) (mm_h hts mm_w456) (fun _ h9 => h9) rfl (tyX12_ok 10 (by decide)) rfl rfl (Nat.le_of_ble_eq_true rfl) dX12_next_258 ?_
                                  clear hP hD hS
                                  clear H locs
                                  intro H locs (hP : va_P G vwCl [(a_0, .inr (12, [.int i_0, .ref a_1, .ref a_2, .ref a_3, .ref a_4, .ref a_5, .int i_1, .int y208_0_7_122, .int 2, .int y0_0_7_33, .int v139, .long 0, .int i_6, .int i_7, .int i_8, .int i_9, .ref a_6, .ref a_7, .ref a_8, .ref a_9, .ref a_10, .ref a_11, .ref a_12, .ref a_13, .ref a_14, .ref a_15, .ref a_16, .ref a_17, .ref a_18, .int i_10, .int i_11, .int i_12, .int i_13, .int i_14, .int i_15, .ref a_19, .int i_16, .ref a_20])), (a_5, .inl (cy 0, 600, .inl f_0))] H) (hD : va_D A [(a_0, .inr (12, [.int i_0, .ref a_1, .ref a_2, .ref a_3, .ref a_4, .ref a_5, .int i_1, .int y208_0_7_122, .int 2, .int y0_0_7_33, .int v139, .long 0, .int i_6, .int i_7, .int i_8, .int i_9, .ref a_6, .ref a_7, .ref a_8, .ref a_9, .ref a_10, .ref a_11, .ref a_12, .ref a_13, .ref a_14, .ref a_15, .ref a_16, .ref a_17, .ref a_18, .int i_10, .int i_11, .int i_12, .int i_13, .int i_14, .int i_15, .ref a_19, .int i_16, .ref a_20])), (a_5, .inl (cy 0, 600, .inl f_0))]) hS
                                  refine lv_aload_n hx hb dX12_next_261 rfl (lv_at hl 0 rfl) ?_
                                  refine lv_dup hx hb dX12_next_262 rfl ?_
                                  refine va_get (D := G) (ci := 12) (v := .int y208_0_7_122) (C := RX12) (T := TX12) (N := 38) hx hb hts (mm_i inlX12) hown hK.1 hP 0 rfl rfl 7 (by decide) (mm_h hts mm_w450) (fun _ h9 => h9) rfl dX12_next_263 ?_
                                  refine lv_iconst (v := 1) hx hb dX12_next_266 (by decide) ?_
                                  refine lv_iadd hx hb dX12_next_267 ?_
                                  refine lv_topi (fun v140 ev140 => ?_)
                                  have rv140 : mm_rg v140 1 600 := mm_add ev140 w128 mm_k1 (by decide) (by decide)
                                  have tv140 := mm_addEc ev140 w128 mm_k1 (by decide) (k := 1) (by decide)
                                  refine va_put (D := G) (ci := 12) (v := .int v140) (ty := tyX12 7) (C := RX12) (T := TX12) (N := 38) hx hb hts (mm_i inlX12) tyX12 tyX12_ok nmX12 hown hK.1 hP hD hS 0 rfl rfl 7 (by decide) (mm_h hts mm_w450) (fun _ h9 => h9) rfl (tyX12_ok 7 (by decide)) rfl rfl (Nat.le_of_ble_eq_true rfl) dX12_next_268 ?_
                                  clear hP hD hS
                                  clear H locs
                                  intro H locs (hP : va_P G vwCl [(a_0, .inr (12, [.int i_0, .ref a_1, .ref a_2, .ref a_3, .ref a_4, .ref a_5, .int i_1, .int v140, .int 2, .int y0_0_7_33, .int v139, .long 0, .int i_6, .int i_7, .int i_8, .int i_9, .ref a_6, .ref a_7, .ref a_8, .ref a_9, .ref a_10, .ref a_11, .ref a_12, .ref a_13, .ref a_14, .ref a_15, .ref a_16, .ref a_17, .ref a_18, .int i_10, .int i_11, .int i_12, .int i_13, .int i_14, .int i_15, .ref a_19, .int i_16, .ref a_20])), (a_5, .inl (cy 0, 600, .inl f_0))] H) (hD : va_D A [(a_0, .inr (12, [.int i_0, .ref a_1, .ref a_2, .ref a_3, .ref a_4, .ref a_5, .int i_1, .int v140, .int 2, .int y0_0_7_33, .int v139, .long 0, .int i_6, .int i_7, .int i_8, .int i_9, .ref a_6, .ref a_7, .ref a_8, .ref a_9, .ref a_10, .ref a_11, .ref a_12, .ref a_13, .ref a_14, .ref a_15, .ref a_16, .ref a_17, .ref a_18, .int i_10, .int i_11, .int i_12, .int i_13, .int i_14, .int i_15, .ref a_19, .int i_16, .ref a_20])), (a_5, .inl (cy 0, 600, .inl f_0))]) hS
                                  refine lv_goto (tgt := 208) hx hb dX12_next_271 (by decide) ?_
                                  exact ih208 v140 v139 (mm_wk rv140 (by decide)) (by have := tv140; have := w129; omega) (by have := tv140; have := w125; omega) (mm_mu hm208 tv140 (by decide) (rv140).2 (by decide)) H locs hP hD hS ls (lv_sub hl [0] rfl)
                                · have q141 := mm_ltR (lo := 100001) (mm_nle c134) mm_k100000 (mm_top y208_0_10_123) (by decide)
                                  refine lv_ldc (v := 1000000) hx hb hown (mm_h hts mm_w462) dX12_next_233 ?_
                                  refine lv_goto (tgt := 258) hx hb dX12_next_235 (by decide) ?_
                                  refine va_put (D := G) (ci := 12) (v := .int 1000000) (ty := tyX12 10) (C := RX12) (T := TX12) (N := 38) hx hb hts (mm_i inlX12) tyX12 tyX12_ok nmX12 hown hK.1 hP hD hS 0 rfl rfl 10 (by decide) (mm_h hts mm_w456) (fun _ h9 => h9) rfl (tyX12_ok 10 (by decide)) rfl rfl (Nat.le_of_ble_eq_true rfl) dX12_next_258 ?_
                                  clear hP hD hS
                                  clear H locs
                                  intro H locs (hP : va_P G vwCl [(a_0, .inr (12, [.int i_0, .ref a_1, .ref a_2, .ref a_3, .ref a_4, .ref a_5, .int i_1, .int y208_0_7_122, .int 2, .int y0_0_7_33, .int 1000000, .long 0, .int i_6, .int i_7, .int i_8, .int i_9, .ref a_6, .ref a_7, .ref a_8, .ref a_9, .ref a_10, .ref a_11, .ref a_12, .ref a_13, .ref a_14, .ref a_15, .ref a_16, .ref a_17, .ref a_18, .int i_10, .int i_11, .int i_12, .int i_13, .int i_14, .int i_15, .ref a_19, .int i_16, .ref a_20])), (a_5, .inl (cy 0, 600, .inl f_0))] H) (hD : va_D A [(a_0, .inr (12, [.int i_0, .ref a_1, .ref a_2, .ref a_3, .ref a_4, .ref a_5, .int i_1, .int y208_0_7_122, .int 2, .int y0_0_7_33, .int 1000000, .long 0, .int i_6, .int i_7, .int i_8, .int i_9, .ref a_6, .ref a_7, .ref a_8, .ref a_9, .ref a_10, .ref a_11, .ref a_12, .ref a_13, .ref a_14, .ref a_15, .ref a_16, .ref a_17, .ref a_18, .int i_10, .int i_11, .int i_12, .int i_13, .int i_14, .int i_15, .ref a_19, .int i_16, .ref a_20])), (a_5, .inl (cy 0, 600, .inl f_0))]) hS
                                  refine lv_aload_n hx hb dX12_next_261 rfl (lv_at hl 0 rfl) ?_
                                  refine lv_dup hx hb dX12_next_262 rfl ?_
                                  refine va_get (D := G) (ci := 12) (v := .int y208_0_7_122) (C := RX12) (T := TX12) (N := 38) hx hb hts (mm_i inlX12) hown hK.1 hP 0 rfl rfl 7 (by decide) (mm_h hts mm_w450) (fun _ h9 => h9) rfl dX12_next_263 ?_
                                  refine lv_iconst (v := 1) hx hb dX12_next_266 (by decide) ?_
                                  refine lv_iadd hx hb dX12_next_267 ?_
                                  refine lv_topi (fun v142 ev142 => ?_)
                                  have rv142 : mm_rg v142 1 600 := mm_add ev142 w128 mm_k1 (by decide) (by decide)
                                  have tv142 := mm_addEc ev142 w128 mm_k1 (by decide) (k := 1) (by decide)
                                  refine va_put (D := G) (ci := 12) (v := .int v142) (ty := tyX12 7) (C := RX12) (T := TX12) (N := 38) hx hb hts (mm_i inlX12) tyX12 tyX12_ok nmX12 hown hK.1 hP hD hS 0 rfl rfl 7 (by decide) (mm_h hts mm_w450) (fun _ h9 => h9) rfl (tyX12_ok 7 (by decide)) rfl rfl (Nat.le_of_ble_eq_true rfl) dX12_next_268 ?_
                                  clear hP hD hS
                                  clear H locs
                                  intro H locs (hP : va_P G vwCl [(a_0, .inr (12, [.int i_0, .ref a_1, .ref a_2, .ref a_3, .ref a_4, .ref a_5, .int i_1, .int v142, .int 2, .int y0_0_7_33, .int 1000000, .long 0, .int i_6, .int i_7, .int i_8, .int i_9, .ref a_6, .ref a_7, .ref a_8, .ref a_9, .ref a_10, .ref a_11, .ref a_12, .ref a_13, .ref a_14, .ref a_15, .ref a_16, .ref a_17, .ref a_18, .int i_10, .int i_11, .int i_12, .int i_13, .int i_14, .int i_15, .ref a_19, .int i_16, .ref a_20])), (a_5, .inl (cy 0, 600, .inl f_0))] H) (hD : va_D A [(a_0, .inr (12, [.int i_0, .ref a_1, .ref a_2, .ref a_3, .ref a_4, .ref a_5, .int i_1, .int v142, .int 2, .int y0_0_7_33, .int 1000000, .long 0, .int i_6, .int i_7, .int i_8, .int i_9, .ref a_6, .ref a_7, .ref a_8, .ref a_9, .ref a_10, .ref a_11, .ref a_12, .ref a_13, .ref a_14, .ref a_15, .ref a_16, .ref a_17, .ref a_18, .int i_10, .int i_11, .int i_12, .int i_13, .int i_14, .int i_15, .ref a_19, .int i_16, .ref a_20])), (a_5, .inl (cy 0, 600, .inl f_0))]) hS
                                  refine lv_goto (tgt := 208) hx hb dX12_next_271 (by decide) ?_
                                  exact ih208 v142 1000000 (mm_wk rv142 (by decide)) (by have := tv142; have := w129; omega) (by have := tv142; have := w125; omega) (mm_mu hm208 tv142 (by decide) (rv142).2 (by decide)) H locs hP hD hS ls (lv_sub hl [0] rfl)
                        exact L208_125 _ y0_0_7_33 0 (mm_wk q48 (by decide)) w34 (Int.le_refl _) (Nat.lt_succ_self _) H locs hP hD hS ls (lv_sub hl [0] rfl)
                  · have q143 := mm_neL (lo := 1) (mm_ne c53) mm_k0 mm_k0 (by decide) (by decide)
                    exact mm_no q143 (by decide)
                · refine lv_if_eq (tgt := 188) hx hb dX12_next_92 (by decide) (fun c144 => ?_) (fun c144 => ?_)
                  · exact mm_eqN c144.symm mm_k0 mm_k1 (by decide)
                  · refine lv_aload_n hx hb dX12_next_95 rfl (lv_at hl 0 rfl) ?_
                    refine lv_iconst (v := 1) hx hb dX12_next_96 (by decide) ?_
                    refine va_put (D := G) (ci := 12) (v := .int 1) (ty := tyX12 8) (C := RX12) (T := TX12) (N := 38) hx hb hts (mm_i inlX12) tyX12 tyX12_ok nmX12 hown hK.1 hP hD hS 0 rfl rfl 8 (by decide) (mm_h hts mm_w432) (fun _ h9 => h9) rfl (tyX12_ok 8 (by decide)) rfl rfl (Nat.le_of_ble_eq_true rfl) dX12_next_97 ?_
                    clear hP hD hS
                    clear H locs
                    intro H locs (hP : va_P G vwCl [(a_0, .inr (12, [.int i_0, .ref a_1, .ref a_2, .ref a_3, .ref a_4, .ref a_5, .int i_1, .int y0_0_7_33, .int 1, .int y0_0_7_33, .int 0, .long 0, .int i_6, .int i_7, .int i_8, .int i_9, .ref a_6, .ref a_7, .ref a_8, .ref a_9, .ref a_10, .ref a_11, .ref a_12, .ref a_13, .ref a_14, .ref a_15, .ref a_16, .ref a_17, .ref a_18, .int i_10, .int i_11, .int i_12, .int i_13, .int i_14, .int i_15, .ref a_19, .int i_16, .ref a_20])), (a_5, .inl (cy 0, 600, .inl f_0))] H) (hD : va_D A [(a_0, .inr (12, [.int i_0, .ref a_1, .ref a_2, .ref a_3, .ref a_4, .ref a_5, .int i_1, .int y0_0_7_33, .int 1, .int y0_0_7_33, .int 0, .long 0, .int i_6, .int i_7, .int i_8, .int i_9, .ref a_6, .ref a_7, .ref a_8, .ref a_9, .ref a_10, .ref a_11, .ref a_12, .ref a_13, .ref a_14, .ref a_15, .ref a_16, .ref a_17, .ref a_18, .int i_10, .int i_11, .int i_12, .int i_13, .int i_14, .int i_15, .ref a_19, .int i_16, .ref a_20])), (a_5, .inl (cy 0, 600, .inl f_0))]) hS
                    refine lv_iconst (v := 0) hx hb dX12_next_100 (by decide) ?_
                    refine lv_istore_n (lv' := [(1, .int 0), (0, .ref a_0)]) hx hb dX12_next_101 rfl hl (by decide) rfl ?_
                    clear hl
                    clear ls
                    intro ls hl
                    have L102_592 : ∀ (n : Nat) (x102_1_588 : Int32) (y102_0_7_589 : Int32) (y102_0_11_590 : Int64), mm_rg y102_0_7_589 0 600 → (y102_0_7_589 : Int32).toInt ≤ (i_1 : Int32).toInt → (y0_0_7_33 : Int32).toInt ≤ (y102_0_7_589 : Int32).toInt → (600 - y102_0_7_589.toInt).toNat < n → ∀ (H : Heap) (locs : List Loc), va_P G vwCl [(a_0, .inr (12, [.int i_0, .ref a_1, .ref a_2, .ref a_3, .ref a_4, .ref a_5, .int i_1, .int y102_0_7_589, .int 1, .int y0_0_7_33, .int 0, .long y102_0_11_590, .int i_6, .int i_7, .int i_8, .int i_9, .ref a_6, .ref a_7, .ref a_8, .ref a_9, .ref a_10, .ref a_11, .ref a_12, .ref a_13, .ref a_14, .ref a_15, .ref a_16, .ref a_17, .ref a_18, .int i_10, .int i_11, .int i_12, .int i_13, .int i_14, .int i_15, .ref a_19, .int i_16, .ref a_20])), (a_5, .inl (cy 0, 600, .inl f_0))] H → va_D A [(a_0, .inr (12, [.int i_0, .ref a_1, .ref a_2, .ref a_3, .ref a_4, .ref a_5, .int i_1, .int y102_0_7_589, .int 1, .int y0_0_7_33, .int 0, .long y102_0_11_590, .int i_6, .int i_7, .int i_8, .int i_9, .ref a_6, .ref a_7, .ref a_8, .ref a_9, .ref a_10, .ref a_11, .ref a_12, .ref a_13, .ref a_14, .ref a_15, .ref a_16, .ref a_17, .ref a_18, .int i_10, .int i_11, .int i_12, .int i_13, .int i_14, .int i_15, .ref a_19, .int i_16, .ref a_20])), (a_5, .inl (cy 0, 600, .inl f_0))] → va_S A s.heap H locs → ∀ (ls : Array Slot), lv_has ls 2 [(1, .int x102_1_588), (0, .ref a_0)] → W p l e R s m args below meth c H locs 0 0 Q (F0 m 102 ls []) := by
                      intro n
                      induction n with
                      | zero => intro x102_1_588 y102_0_7_589 y102_0_11_590 ry102_0_7_589 w591 w592 hm; exact absurd hm (Nat.not_lt_zero _)
                      | succ n ih102 =>
                        intro x102_1_588 y102_0_7_589 y102_0_11_590 ry102_0_7_589 w591 w592 hm102 H locs hP hD hS ls hl
                        refine lv_aload_n hx hb dX12_next_102 rfl (lv_at hl 1 rfl) ?_
                        refine lv_aload_n hx hb dX12_next_103 rfl (lv_at hl 1 rfl) ?_
                        refine va_get (D := G) (ci := 12) (v := .int y102_0_7_589) (C := RX12) (T := TX12) (N := 38) hx hb hts (mm_i inlX12) hown hK.1 hP 0 rfl rfl 7 (by decide) (mm_h hts mm_w450) (fun _ h9 => h9) rfl dX12_next_104 ?_
                        refine lv_bipush (v := 97) hx hb dX12_next_107 (by decide) ?_
                        refine lv_bipush (v := 122) hx hb dX12_next_109 (by decide) ?_
                        refine mm_finir (va_runV (As := [.int y102_0_7_589, .int 97, .int 122]) (rest := []) ⟨hx, hb, hml, hown, hts⟩ (M21_X12_isByte l G cy H.size a_0 y102_0_7_589 i_0 a_1 a_2 a_3 a_4 a_5 i_1 y102_0_7_589 1 y0_0_7_33 0 y102_0_11_590 i_6 i_7 i_8 i_9 a_6 a_7 a_8 a_9 a_10 a_11 a_12 a_13 a_14 a_15 a_16 a_17 a_18 i_10 i_11 i_12 i_13 i_14 i_15 a_19 i_16 a_20 f_0 ry102_0_7_589 (mm_wk q49 (by decide)) h4) (cwV 3 hts (mm_gV mm_w463 mm_w464 mm_w465 mm_w5 mm_w466) rfl rfl rfl hd_X12_isByte ⟨by rw [hRf]; exact Nat.le_of_ble_eq_true rfl, by rw [hRl]; exact Nat.le_of_ble_eq_true rfl⟩) (mm_preV hK hZ hS hA hP hD [0, 1] rfl rfl 0 rfl rfl rfl) rfl rfl hl.1 rfl (lv_room (Nat.le_of_ble_eq_true rfl)) dX12_next_111 ⟨by rw [hRc]; exact Nat.le_of_ble_eq_true rfl, by rw [hRs]; exact Nat.le_of_ble_eq_true rfl⟩) hP hD hS hA [0, 1] rfl (fun _ => rfl) ?_
                        clear hP hD hS
                        clear H locs
                        intro v594 _u H locs hw hP hD hS
                        rcases hw with rfl | ⟨rfl, w595, w596⟩
                        · refine lv_if_eq (tgt := 185) hx hb dX12_next_114 (by decide) (fun c597 => ?_) (fun c597 => ?_)
                          · refine lv_goto (tgt := 307) hx hb dX12_next_185 (by decide) ?_
                            have w598 : mm_tk 1 y0_0_7_33 y102_0_7_589 := (mm_tk1 mm_k1 (by decide))
                            subst hAe
                            rw [hQ]
                            exact W.vret hx hb hr (fun t ht hW => ⟨⟨(y102_0_7_589, 1, y0_0_7_33, 0, y102_0_11_590), rfl, ⟨ry102_0_7_589, (mm_wk mm_k1 (by decide)), (mm_wk q48 (by decide)), w592, w591, w598, w35⟩, by rw [ht]; exact hP, hK.warm hW, hD⟩, hS.F ht⟩) hS.2.2 dX12_next_307
                          · have q599 := mm_neL (lo := 1) (mm_ne c597) mm_k0 mm_k0 (by decide) (by decide)
                            exact mm_no q599 (by decide)
                        · refine lv_if_eq (tgt := 185) hx hb dX12_next_114 (by decide) (fun c600 => ?_) (fun c600 => ?_)
                          · exact mm_eqN c600.symm mm_k0 mm_k1 (by decide)
                          · refine lv_aload_n hx hb dX12_next_117 rfl (lv_at hl 1 rfl) ?_
                            refine lv_iload_n hx hb dX12_next_118 rfl (lv_at hl 0 rfl) ?_
                            refine lv_bipush (v := 11) hx hb dX12_next_119 (by decide) ?_
                            refine lv_icmp_le (tgt := 130) hx hb dX12_next_121 (by decide) (fun c601 => ?_) (fun c601 => ?_)
                            · have q602 := mm_leL (mm_le c601) (mm_top x102_1_588) mm_k11
                              refine lv_ldc2 (v := 27) hx hb hown (mm_h hts mm_w459) dX12_next_130 ?_
                              refine lv_aload_n hx hb dX12_next_133 rfl (lv_at hl 1 rfl) ?_
                              refine va_get (D := G) (ci := 12) (v := .long y102_0_11_590) (C := RX12) (T := TX12) (N := 38) hx hb hts (mm_i inlX12) hown hK.1 hP 0 rfl rfl 11 (by decide) (mm_h hts mm_w457) (fun _ h9 => h9) rfl dX12_next_134 ?_
                              refine lv_lmul hx hb dX12_next_137 ?_
                              refine lv_topl (fun v603 ev603 => ?_)
                              refine lv_aload_n hx hb dX12_next_138 rfl (lv_at hl 1 rfl) ?_
                              refine va_get (D := G) (ci := 12) (v := .ref a_5) (C := RX12) (T := TX12) (N := 38) hx hb hts (mm_i inlX12) hown hK.1 hP 0 rfl rfl 5 (by decide) (mm_h hts mm_w146) (fun _ h9 => h9) rfl dX12_next_139 ?_
                              refine lv_aload_n hx hb dX12_next_142 rfl (lv_at hl 1 rfl) ?_
                              refine va_get (D := G) (ci := 12) (v := .int y102_0_7_589) (C := RX12) (T := TX12) (N := 38) hx hb hts (mm_i inlX12) hown hK.1 hP 0 rfl rfl 7 (by decide) (mm_h hts mm_w450) (fun _ h9 => h9) rfl dX12_next_143 ?_
                              refine va_bald hx hb hK.1 hP 1 0 rfl rfl (mm_in w595 (by decide)) dX12_next_146 ?_
                              refine lv_topi (fun v604 ev604 => ?_)
                              have rv604 : mm_rg v604 (-128) 127 := mm_eqv ev604 (h4 _)
                              obtain ⟨v605, ev605⟩ : ∃ y : Int64, y = v604.toInt64 := ⟨_, rfl⟩
                              refine lv_i2l hx hb dX12_next_147 ev605.symm ?_
                              have rv605 : mm_rl v605 (-128) 127 := mm_i2l ev605 rv604
                              refine lv_ladd hx hb dX12_next_148 ?_
                              refine lv_topl (fun v606 ev606 => ?_)
                              refine lv_ldc2 (v := 96) hx hb hown (mm_h hts mm_w460) dX12_next_149 ?_
                              refine lv_lsub hx hb dX12_next_152 ?_
                              refine lv_topl (fun v607 ev607 => ?_)
                              refine va_put (D := G) (ci := 12) (v := .long v607) (ty := tyX12 11) (C := RX12) (T := TX12) (N := 38) hx hb hts (mm_i inlX12) tyX12 tyX12_ok nmX12 hown hK.1 hP hD hS 0 rfl rfl 11 (by decide) (mm_h hts mm_w457) (fun _ h9 => h9) rfl (tyX12_ok 11 (by decide)) rfl rfl (Nat.le_of_ble_eq_true rfl) dX12_next_153 ?_
                              clear hP hD hS
                              clear H locs
                              intro H locs (hP : va_P G vwCl [(a_0, .inr (12, [.int i_0, .ref a_1, .ref a_2, .ref a_3, .ref a_4, .ref a_5, .int i_1, .int y102_0_7_589, .int 1, .int y0_0_7_33, .int 0, .long v607, .int i_6, .int i_7, .int i_8, .int i_9, .ref a_6, .ref a_7, .ref a_8, .ref a_9, .ref a_10, .ref a_11, .ref a_12, .ref a_13, .ref a_14, .ref a_15, .ref a_16, .ref a_17, .ref a_18, .int i_10, .int i_11, .int i_12, .int i_13, .int i_14, .int i_15, .ref a_19, .int i_16, .ref a_20])), (a_5, .inl (cy 0, 600, .inl f_0))] H) (hD : va_D A [(a_0, .inr (12, [.int i_0, .ref a_1, .ref a_2, .ref a_3, .ref a_4, .ref a_5, .int i_1, .int y102_0_7_589, .int 1, .int y0_0_7_33, .int 0, .long v607, .int i_6, .int i_7, .int i_8, .int i_9, .ref a_6, .ref a_7, .ref a_8, .ref a_9, .ref a_10, .ref a_11, .ref a_12, .ref a_13, .ref a_14, .ref a_15, .ref a_16, .ref a_17, .ref a_18, .int i_10, .int i_11, .int i_12, .int i_13, .int i_14, .int i_15, .ref a_19, .int i_16, .ref a_20])), (a_5, .inl (cy 0, 600, .inl f_0))]) hS
                              refine lv_iload_n hx hb dX12_next_156 rfl (lv_at hl 0 rfl) ?_
                              refine lv_bipush (v := 11) hx hb dX12_next_157 (by decide) ?_
                              refine lv_icmp_le (tgt := 169) hx hb dX12_next_159 (by decide) (fun c608 => ?_) (fun c608 => ?_)
                              · refine lv_aload_n hx hb dX12_next_169 rfl (lv_at hl 1 rfl) ?_
                                refine lv_dup hx hb dX12_next_170 rfl ?_
                                refine va_get (D := G) (ci := 12) (v := .int y102_0_7_589) (C := RX12) (T := TX12) (N := 38) hx hb hts (mm_i inlX12) hown hK.1 hP 0 rfl rfl 7 (by decide) (mm_h hts mm_w450) (fun _ h9 => h9) rfl dX12_next_171 ?_
                                refine lv_iconst (v := 1) hx hb dX12_next_174 (by decide) ?_
                                refine lv_iadd hx hb dX12_next_175 ?_
                                refine lv_topi (fun v609 ev609 => ?_)
                                have rv609 : mm_rg v609 1 600 := mm_add ev609 w595 mm_k1 (by decide) (by decide)
                                have tv609 := mm_addEc ev609 w595 mm_k1 (by decide) (k := 1) (by decide)
                                refine va_put (D := G) (ci := 12) (v := .int v609) (ty := tyX12 7) (C := RX12) (T := TX12) (N := 38) hx hb hts (mm_i inlX12) tyX12 tyX12_ok nmX12 hown hK.1 hP hD hS 0 rfl rfl 7 (by decide) (mm_h hts mm_w450) (fun _ h9 => h9) rfl (tyX12_ok 7 (by decide)) rfl rfl (Nat.le_of_ble_eq_true rfl) dX12_next_176 ?_
                                clear hP hD hS
                                clear H locs
                                intro H locs (hP : va_P G vwCl [(a_0, .inr (12, [.int i_0, .ref a_1, .ref a_2, .ref a_3, .ref a_4, .ref a_5, .int i_1, .int v609, .int 1, .int y0_0_7_33, .int 0, .long v607, .int i_6, .int i_7, .int i_8, .int i_9, .ref a_6, .ref a_7, .ref a_8, .ref a_9, .ref a_10, .ref a_11, .ref a_12, .ref a_13, .ref a_14, .ref a_15, .ref a_16, .ref a_17, .ref a_18, .int i_10, .int i_11, .int i_12, .int i_13, .int i_14, .int i_15, .ref a_19, .int i_16, .ref a_20])), (a_5, .inl (cy 0, 600, .inl f_0))] H) (hD : va_D A [(a_0, .inr (12, [.int i_0, .ref a_1, .ref a_2, .ref a_3, .ref a_4, .ref a_5, .int i_1, .int v609, .int 1, .int y0_0_7_33, .int 0, .long v607, .int i_6, .int i_7, .int i_8, .int i_9, .ref a_6, .ref a_7, .ref a_8, .ref a_9, .ref a_10, .ref a_11, .ref a_12, .ref a_13, .ref a_14, .ref a_15, .ref a_16, .ref a_17, .ref a_18, .int i_10, .int i_11, .int i_12, .int i_13, .int i_14, .int i_15, .ref a_19, .int i_16, .ref a_20])), (a_5, .inl (cy 0, 600, .inl f_0))]) hS
                                obtain ⟨v610, ev610⟩ : ∃ y : Int32, y = x102_1_588 + 1 := ⟨_, rfl⟩
                                refine lv_iinc (v := v610) (lv' := [(1, .int v610), (0, .ref a_0)]) hx hb dX12_next_179 hl (k := 0) rfl (by rw [ev610]; rfl) (by decide) rfl ?_
                                clear hl
                                clear ls
                                intro ls hl
                                have rv610 : mm_rg v610 (-2147483647) 12 := mm_add ev610 q602 mm_k1 (by decide) (by decide)
                                have tv610 := mm_addEc ev610 q602 mm_k1 (by decide) (k := 1) (by decide)
                                refine lv_goto (tgt := 102) hx hb dX12_next_182 (by decide) ?_
                                exact ih102 v610 v609 v607 (mm_wk rv609 (by decide)) (by have := tv609; have := w596; omega) (by have := tv609; have := w592; omega) (mm_mu hm102 tv609 (by decide) (rv609).2 (by decide)) H locs hP hD hS ls (lv_sub hl [0, 1] rfl)
                              · have q611 := mm_ltL (h := 10) (mm_nle c608) mm_k11 q602 (by decide)
                                exact mm_no q611 (by decide)
                            · have q612 := mm_ltR (lo := 12) (mm_nle c601) mm_k11 (mm_top x102_1_588) (by decide)
                              refine lv_ldc2 (v := (-1)) hx hb hown (mm_h hts mm_w458) dX12_next_124 ?_
                              refine lv_goto (tgt := 153) hx hb dX12_next_127 (by decide) ?_
                              refine va_put (D := G) (ci := 12) (v := .long (-1)) (ty := tyX12 11) (C := RX12) (T := TX12) (N := 38) hx hb hts (mm_i inlX12) tyX12 tyX12_ok nmX12 hown hK.1 hP hD hS 0 rfl rfl 11 (by decide) (mm_h hts mm_w457) (fun _ h9 => h9) rfl (tyX12_ok 11 (by decide)) rfl rfl (Nat.le_of_ble_eq_true rfl) dX12_next_153 ?_
                              clear hP hD hS
                              clear H locs
                              intro H locs (hP : va_P G vwCl [(a_0, .inr (12, [.int i_0, .ref a_1, .ref a_2, .ref a_3, .ref a_4, .ref a_5, .int i_1, .int y102_0_7_589, .int 1, .int y0_0_7_33, .int 0, .long (-1), .int i_6, .int i_7, .int i_8, .int i_9, .ref a_6, .ref a_7, .ref a_8, .ref a_9, .ref a_10, .ref a_11, .ref a_12, .ref a_13, .ref a_14, .ref a_15, .ref a_16, .ref a_17, .ref a_18, .int i_10, .int i_11, .int i_12, .int i_13, .int i_14, .int i_15, .ref a_19, .int i_16, .ref a_20])), (a_5, .inl (cy 0, 600, .inl f_0))] H) (hD : va_D A [(a_0, .inr (12, [.int i_0, .ref a_1, .ref a_2, .ref a_3, .ref a_4, .ref a_5, .int i_1, .int y102_0_7_589, .int 1, .int y0_0_7_33, .int 0, .long (-1), .int i_6, .int i_7, .int i_8, .int i_9, .ref a_6, .ref a_7, .ref a_8, .ref a_9, .ref a_10, .ref a_11, .ref a_12, .ref a_13, .ref a_14, .ref a_15, .ref a_16, .ref a_17, .ref a_18, .int i_10, .int i_11, .int i_12, .int i_13, .int i_14, .int i_15, .ref a_19, .int i_16, .ref a_20])), (a_5, .inl (cy 0, 600, .inl f_0))]) hS
                              refine lv_iload_n hx hb dX12_next_156 rfl (lv_at hl 0 rfl) ?_
                              refine lv_bipush (v := 11) hx hb dX12_next_157 (by decide) ?_
                              refine lv_icmp_le (tgt := 169) hx hb dX12_next_159 (by decide) (fun c613 => ?_) (fun c613 => ?_)
                              · have q614 := mm_leL (mm_le c613) q612 mm_k11
                                exact mm_no q614 (by decide)
                              · refine lv_aload_n hx hb dX12_next_162 rfl (lv_at hl 1 rfl) ?_
                                refine lv_ldc2 (v := (-1)) hx hb hown (mm_h hts mm_w458) dX12_next_163 ?_
                                refine va_put (D := G) (ci := 12) (v := .long (-1)) (ty := tyX12 11) (C := RX12) (T := TX12) (N := 38) hx hb hts (mm_i inlX12) tyX12 tyX12_ok nmX12 hown hK.1 hP hD hS 0 rfl rfl 11 (by decide) (mm_h hts mm_w457) (fun _ h9 => h9) rfl (tyX12_ok 11 (by decide)) rfl rfl (Nat.le_of_ble_eq_true rfl) dX12_next_166 ?_
                                clear hP hD hS
                                clear H locs
                                intro H locs (hP : va_P G vwCl [(a_0, .inr (12, [.int i_0, .ref a_1, .ref a_2, .ref a_3, .ref a_4, .ref a_5, .int i_1, .int y102_0_7_589, .int 1, .int y0_0_7_33, .int 0, .long (-1), .int i_6, .int i_7, .int i_8, .int i_9, .ref a_6, .ref a_7, .ref a_8, .ref a_9, .ref a_10, .ref a_11, .ref a_12, .ref a_13, .ref a_14, .ref a_15, .ref a_16, .ref a_17, .ref a_18, .int i_10, .int i_11, .int i_12, .int i_13, .int i_14, .int i_15, .ref a_19, .int i_16, .ref a_20])), (a_5, .inl (cy 0, 600, .inl f_0))] H) (hD : va_D A [(a_0, .inr (12, [.int i_0, .ref a_1, .ref a_2, .ref a_3, .ref a_4, .ref a_5, .int i_1, .int y102_0_7_589, .int 1, .int y0_0_7_33, .int 0, .long (-1), .int i_6, .int i_7, .int i_8, .int i_9, .ref a_6, .ref a_7, .ref a_8, .ref a_9, .ref a_10, .ref a_11, .ref a_12, .ref a_13, .ref a_14, .ref a_15, .ref a_16, .ref a_17, .ref a_18, .int i_10, .int i_11, .int i_12, .int i_13, .int i_14, .int i_15, .ref a_19, .int i_16, .ref a_20])), (a_5, .inl (cy 0, 600, .inl f_0))]) hS
                                refine lv_aload_n hx hb dX12_next_169 rfl (lv_at hl 1 rfl) ?_
                                refine lv_dup hx hb dX12_next_170 rfl ?_
                                refine va_get (D := G) (ci := 12) (v := .int y102_0_7_589) (C := RX12) (T := TX12) (N := 38) hx hb hts (mm_i inlX12) hown hK.1 hP 0 rfl rfl 7 (by decide) (mm_h hts mm_w450) (fun _ h9 => h9) rfl dX12_next_171 ?_
                                refine lv_iconst (v := 1) hx hb dX12_next_174 (by decide) ?_
                                refine lv_iadd hx hb dX12_next_175 ?_
                                refine lv_topi (fun v615 ev615 => ?_)
                                have rv615 : mm_rg v615 1 600 := mm_add ev615 w595 mm_k1 (by decide) (by decide)
                                have tv615 := mm_addEc ev615 w595 mm_k1 (by decide) (k := 1) (by decide)
                                refine va_put (D := G) (ci := 12) (v := .int v615) (ty := tyX12 7) (C := RX12) (T := TX12) (N := 38) hx hb hts (mm_i inlX12) tyX12 tyX12_ok nmX12 hown hK.1 hP hD hS 0 rfl rfl 7 (by decide) (mm_h hts mm_w450) (fun _ h9 => h9) rfl (tyX12_ok 7 (by decide)) rfl rfl (Nat.le_of_ble_eq_true rfl) dX12_next_176 ?_
                                clear hP hD hS
                                clear H locs
                                intro H locs (hP : va_P G vwCl [(a_0, .inr (12, [.int i_0, .ref a_1, .ref a_2, .ref a_3, .ref a_4, .ref a_5, .int i_1, .int v615, .int 1, .int y0_0_7_33, .int 0, .long (-1), .int i_6, .int i_7, .int i_8, .int i_9, .ref a_6, .ref a_7, .ref a_8, .ref a_9, .ref a_10, .ref a_11, .ref a_12, .ref a_13, .ref a_14, .ref a_15, .ref a_16, .ref a_17, .ref a_18, .int i_10, .int i_11, .int i_12, .int i_13, .int i_14, .int i_15, .ref a_19, .int i_16, .ref a_20])), (a_5, .inl (cy 0, 600, .inl f_0))] H) (hD : va_D A [(a_0, .inr (12, [.int i_0, .ref a_1, .ref a_2, .ref a_3, .ref a_4, .ref a_5, .int i_1, .int v615, .int 1, .int y0_0_7_33, .int 0, .long (-1), .int i_6, .int i_7, .int i_8, .int i_9, .ref a_6, .ref a_7, .ref a_8, .ref a_9, .ref a_10, .ref a_11, .ref a_12, .ref a_13, .ref a_14, .ref a_15, .ref a_16, .ref a_17, .ref a_18, .int i_10, .int i_11, .int i_12, .int i_13, .int i_14, .int i_15, .ref a_19, .int i_16, .ref a_20])), (a_5, .inl (cy 0, 600, .inl f_0))]) hS
                                obtain ⟨v616, ev616⟩ : ∃ y : Int32, y = x102_1_588 + 1 := ⟨_, rfl⟩
                                refine lv_iinc (v := v616) (lv' := [(1, .int v616), (0, .ref a_0)]) hx hb dX12_next_179 hl (k := 0) rfl (by rw [ev616]; rfl) (by decide) rfl ?_
                                clear hl
                                clear ls
                                intro ls hl
                                refine lv_goto (tgt := 102) hx hb dX12_next_182 (by decide) ?_
                                exact ih102 v616 v615 (-1) (mm_wk rv615 (by decide)) (by have := tv615; have := w596; omega) (by have := tv615; have := w592; omega) (mm_mu hm102 tv615 (by decide) (rv615).2 (by decide)) H locs hP hD hS ls (lv_sub hl [0, 1] rfl)
                    exact L102_592 _ 0 y0_0_7_33 0 (mm_wk q48 (by decide)) w34 (Int.le_refl _) (Nat.lt_succ_self _) H locs hP hD hS ls (lv_sub hl [0, 1] rfl)
              · refine lv_aload_n hx hb dX12_next_72 rfl (lv_at hl 0 rfl) ?_
                refine lv_iconst (v := 0) hx hb dX12_next_73 (by decide) ?_
                refine va_put (D := G) (ci := 12) (v := .int 0) (ty := tyX12 8) (C := RX12) (T := TX12) (N := 38) hx hb hts (mm_i inlX12) tyX12 tyX12_ok nmX12 hown hK.1 hP hD hS 0 rfl rfl 8 (by decide) (mm_h hts mm_w432) (fun _ h9 => h9) rfl (tyX12_ok 8 (by decide)) rfl rfl (Nat.le_of_ble_eq_true rfl) dX12_next_74 ?_
                clear hP hD hS
                clear H locs
                intro H locs (hP : va_P G vwCl [(a_0, .inr (12, [.int i_0, .ref a_1, .ref a_2, .ref a_3, .ref a_4, .ref a_5, .int i_1, .int y0_0_7_33, .int 0, .int y0_0_7_33, .int 0, .long 0, .int i_6, .int i_7, .int i_8, .int i_9, .ref a_6, .ref a_7, .ref a_8, .ref a_9, .ref a_10, .ref a_11, .ref a_12, .ref a_13, .ref a_14, .ref a_15, .ref a_16, .ref a_17, .ref a_18, .int i_10, .int i_11, .int i_12, .int i_13, .int i_14, .int i_15, .ref a_19, .int i_16, .ref a_20])), (a_5, .inl (cy 0, 600, .inl f_0))] H) (hD : va_D A [(a_0, .inr (12, [.int i_0, .ref a_1, .ref a_2, .ref a_3, .ref a_4, .ref a_5, .int i_1, .int y0_0_7_33, .int 0, .int y0_0_7_33, .int 0, .long 0, .int i_6, .int i_7, .int i_8, .int i_9, .ref a_6, .ref a_7, .ref a_8, .ref a_9, .ref a_10, .ref a_11, .ref a_12, .ref a_13, .ref a_14, .ref a_15, .ref a_16, .ref a_17, .ref a_18, .int i_10, .int i_11, .int i_12, .int i_13, .int i_14, .int i_15, .ref a_19, .int i_16, .ref a_20])), (a_5, .inl (cy 0, 600, .inl f_0))]) hS
                refine lv_goto (tgt := 307) hx hb dX12_next_77 (by decide) ?_
                have w617 : (y0_0_7_33 : Int32).toInt ≤ (y0_0_7_33 : Int32).toInt := (Int.le_refl _)
                have w618 : mm_tk 0 y0_0_7_33 y0_0_7_33 := (mm_tk1 mm_k0 (by decide))
                subst hAe
                rw [hQ]
                exact W.vret hx hb hr (fun t ht hW => ⟨⟨(y0_0_7_33, 0, y0_0_7_33, 0, 0), rfl, ⟨ry0_0_7_33, (mm_wk mm_k0 (by decide)), ry0_0_7_33, w617, w34, w618, w35⟩, by rw [ht]; exact hP, hK.warm hW, hD⟩, hS.F ht⟩) hS.2.2 dX12_next_307
            · have q619 := mm_neL (lo := 1) (mm_ne c45) mm_k0 mm_k0 (by decide) (by decide)
              exact mm_no q619 (by decide)
          · have q620 := mm_ltR (lo := 1) w44 w43 h0 (by decide)
            refine lv_if_eq (tgt := 43) hx hb dX12_next_27 (by decide) (fun c621 => ?_) (fun c621 => ?_)
            · exact mm_eqN c621.symm mm_k0 mm_k1 (by decide)
            · refine lv_aload_n hx hb dX12_next_30 rfl (lv_at hl 0 rfl) ?_
              refine lv_dup hx hb dX12_next_31 rfl ?_
              refine va_get (D := G) (ci := 12) (v := .int y0_0_7_33) (C := RX12) (T := TX12) (N := 38) hx hb hts (mm_i inlX12) hown hK.1 hP 0 rfl rfl 7 (by decide) (mm_h hts mm_w450) (fun _ h9 => h9) rfl dX12_next_32 ?_
              refine lv_iconst (v := 1) hx hb dX12_next_35 (by decide) ?_
              refine lv_iadd hx hb dX12_next_36 ?_
              refine lv_topi (fun v622 ev622 => ?_)
              have rv622 : mm_rg v622 1 600 := mm_add ev622 w43 mm_k1 (by decide) (by decide)
              have tv622 := mm_addEc ev622 w43 mm_k1 (by decide) (k := 1) (by decide)
              refine va_put (D := G) (ci := 12) (v := .int v622) (ty := tyX12 7) (C := RX12) (T := TX12) (N := 38) hx hb hts (mm_i inlX12) tyX12 tyX12_ok nmX12 hown hK.1 hP hD hS 0 rfl rfl 7 (by decide) (mm_h hts mm_w450) (fun _ h9 => h9) rfl (tyX12_ok 7 (by decide)) rfl rfl (Nat.le_of_ble_eq_true rfl) dX12_next_37 ?_
              clear hP hD hS
              clear H locs
              intro H locs (hP : va_P G vwCl [(a_0, .inr (12, [.int i_0, .ref a_1, .ref a_2, .ref a_3, .ref a_4, .ref a_5, .int i_1, .int v622, .int i_3, .int i_4, .int i_5, .long j_0, .int i_6, .int i_7, .int i_8, .int i_9, .ref a_6, .ref a_7, .ref a_8, .ref a_9, .ref a_10, .ref a_11, .ref a_12, .ref a_13, .ref a_14, .ref a_15, .ref a_16, .ref a_17, .ref a_18, .int i_10, .int i_11, .int i_12, .int i_13, .int i_14, .int i_15, .ref a_19, .int i_16, .ref a_20])), (a_5, .inl (cy 0, 600, .inl f_0))] H) (hD : va_D A [(a_0, .inr (12, [.int i_0, .ref a_1, .ref a_2, .ref a_3, .ref a_4, .ref a_5, .int i_1, .int v622, .int i_3, .int i_4, .int i_5, .long j_0, .int i_6, .int i_7, .int i_8, .int i_9, .ref a_6, .ref a_7, .ref a_8, .ref a_9, .ref a_10, .ref a_11, .ref a_12, .ref a_13, .ref a_14, .ref a_15, .ref a_16, .ref a_17, .ref a_18, .int i_10, .int i_11, .int i_12, .int i_13, .int i_14, .int i_15, .ref a_19, .int i_16, .ref a_20])), (a_5, .inl (cy 0, 600, .inl f_0))]) hS
              refine lv_goto (tgt := 0) hx hb dX12_next_40 (by decide) ?_
              exact ih0 v622 (mm_wk rv622 (by decide)) (by have := tv622; have := w44; omega) (by have := tv622; have := w35; omega) (mm_mu hm0 tv622 (by decide) (rv622).2 (by decide)) H locs hP hD hS ls (lv_sub hl [0] rfl)
      · have q623 := mm_ltR (lo := 1) w39 w38 h0 (by decide)
        refine lv_if_ne (tgt := 30) hx hb dX12_next_12 (by decide) (fun c624 => ?_) (fun c624 => ?_)
        · refine lv_aload_n hx hb dX12_next_30 rfl (lv_at hl 0 rfl) ?_
          refine lv_dup hx hb dX12_next_31 rfl ?_
          refine va_get (D := G) (ci := 12) (v := .int y0_0_7_33) (C := RX12) (T := TX12) (N := 38) hx hb hts (mm_i inlX12) hown hK.1 hP 0 rfl rfl 7 (by decide) (mm_h hts mm_w450) (fun _ h9 => h9) rfl dX12_next_32 ?_
          refine lv_iconst (v := 1) hx hb dX12_next_35 (by decide) ?_
          refine lv_iadd hx hb dX12_next_36 ?_
          refine lv_topi (fun v625 ev625 => ?_)
          have rv625 : mm_rg v625 1 600 := mm_add ev625 w38 mm_k1 (by decide) (by decide)
          have tv625 := mm_addEc ev625 w38 mm_k1 (by decide) (k := 1) (by decide)
          refine va_put (D := G) (ci := 12) (v := .int v625) (ty := tyX12 7) (C := RX12) (T := TX12) (N := 38) hx hb hts (mm_i inlX12) tyX12 tyX12_ok nmX12 hown hK.1 hP hD hS 0 rfl rfl 7 (by decide) (mm_h hts mm_w450) (fun _ h9 => h9) rfl (tyX12_ok 7 (by decide)) rfl rfl (Nat.le_of_ble_eq_true rfl) dX12_next_37 ?_
          clear hP hD hS
          clear H locs
          intro H locs (hP : va_P G vwCl [(a_0, .inr (12, [.int i_0, .ref a_1, .ref a_2, .ref a_3, .ref a_4, .ref a_5, .int i_1, .int v625, .int i_3, .int i_4, .int i_5, .long j_0, .int i_6, .int i_7, .int i_8, .int i_9, .ref a_6, .ref a_7, .ref a_8, .ref a_9, .ref a_10, .ref a_11, .ref a_12, .ref a_13, .ref a_14, .ref a_15, .ref a_16, .ref a_17, .ref a_18, .int i_10, .int i_11, .int i_12, .int i_13, .int i_14, .int i_15, .ref a_19, .int i_16, .ref a_20])), (a_5, .inl (cy 0, 600, .inl f_0))] H) (hD : va_D A [(a_0, .inr (12, [.int i_0, .ref a_1, .ref a_2, .ref a_3, .ref a_4, .ref a_5, .int i_1, .int v625, .int i_3, .int i_4, .int i_5, .long j_0, .int i_6, .int i_7, .int i_8, .int i_9, .ref a_6, .ref a_7, .ref a_8, .ref a_9, .ref a_10, .ref a_11, .ref a_12, .ref a_13, .ref a_14, .ref a_15, .ref a_16, .ref a_17, .ref a_18, .int i_10, .int i_11, .int i_12, .int i_13, .int i_14, .int i_15, .ref a_19, .int i_16, .ref a_20])), (a_5, .inl (cy 0, 600, .inl f_0))]) hS
          refine lv_goto (tgt := 0) hx hb dX12_next_40 (by decide) ?_
          exact ih0 v625 (mm_wk rv625 (by decide)) (by have := tv625; have := w39; omega) (by have := tv625; have := w35; omega) (mm_mu hm0 tv625 (by decide) (rv625).2 (by decide)) H locs hP hD hS ls (lv_sub hl [0] rfl)
        · exact mm_eqN c624.symm mm_k0 mm_k1 (by decide)
  exact L0_35 _ i_2 h1 h5 (Int.le_refl _) (Nat.lt_succ_self _) H locs hP hD hS ls (lv_sub hl [0] rfl)

