theorem dX12_ruleLine_0 : decode cX12_ruleLine 0 = .ok (.bipush 12, 2) := by decide +kernel
theorem dX12_ruleLine_2 : decode cX12_ruleLine 2 = .ok (.aload_n 0, 1) := by decide +kernel
theorem dX12_ruleLine_3 : decode cX12_ruleLine 3 = .ok (.iconst 3, 1) := by decide +kernel
theorem dX12_ruleLine_4 : decode cX12_ruleLine 4 = .ok (.invokevirtual 159, 3) := by decide +kernel
theorem dX12_ruleLine_7 : decode cX12_ruleLine 7 = .ok (.iadd, 1) := by decide +kernel
theorem dX12_ruleLine_8 : decode cX12_ruleLine 8 = .ok (.iconst 1, 1) := by decide +kernel
theorem dX12_ruleLine_9 : decode cX12_ruleLine 9 = .ok (.isub, 1) := by decide +kernel
theorem dX12_ruleLine_10 : decode cX12_ruleLine 10 = .ok (.istore_n 1, 1) := by decide +kernel
theorem dX12_ruleLine_11 : decode cX12_ruleLine 11 = .ok (.bipush 10, 2) := by decide +kernel
theorem dX12_ruleLine_13 : decode cX12_ruleLine 13 = .ok (.bipush 7, 2) := by decide +kernel
theorem dX12_ruleLine_15 : decode cX12_ruleLine 15 = .ok (.iload_n 1, 1) := by decide +kernel
theorem dX12_ruleLine_16 : decode cX12_ruleLine 16 = .ok (.imul, 1) := by decide +kernel
theorem dX12_ruleLine_17 : decode cX12_ruleLine 17 = .ok (.aload_n 0, 1) := by decide +kernel
theorem dX12_ruleLine_18 : decode cX12_ruleLine 18 = .ok (.getfield 40, 3) := by decide +kernel
theorem dX12_ruleLine_21 : decode cX12_ruleLine 21 = .ok (.iload_n 1, 1) := by decide +kernel
theorem dX12_ruleLine_22 : decode cX12_ruleLine 22 = .ok (.iaload, 1) := by decide +kernel
theorem dX12_ruleLine_23 : decode cX12_ruleLine 23 = .ok (.iadd, 1) := by decide +kernel
theorem dX12_ruleLine_24 : decode cX12_ruleLine 24 = .ok (.imul, 1) := by decide +kernel
theorem dX12_ruleLine_25 : decode cX12_ruleLine 25 = .ok (.istore_n 2, 1) := by decide +kernel
theorem dX12_ruleLine_26 : decode cX12_ruleLine 26 = .ok (.aload_n 0, 1) := by decide +kernel
theorem dX12_ruleLine_27 : decode cX12_ruleLine 27 = .ok (.iconst 2, 1) := by decide +kernel
theorem dX12_ruleLine_28 : decode cX12_ruleLine 28 = .ok (.invokevirtual 159, 3) := by decide +kernel
theorem dX12_ruleLine_31 : decode cX12_ruleLine 31 = .ok (.iconst 1, 1) := by decide +kernel
theorem dX12_ruleLine_32 : decode cX12_ruleLine 32 = .ok (.iadd, 1) := by decide +kernel
theorem dX12_ruleLine_33 : decode cX12_ruleLine 33 = .ok (.istore_n 3, 1) := by decide +kernel
theorem dX12_ruleLine_34 : decode cX12_ruleLine 34 = .ok (.iconst 0, 1) := by decide +kernel
theorem dX12_ruleLine_35 : decode cX12_ruleLine 35 = .ok (.istore 4, 2) := by decide +kernel
theorem dX12_ruleLine_37 : decode cX12_ruleLine 37 = .ok (.iload 4, 2) := by decide +kernel
theorem dX12_ruleLine_39 : decode cX12_ruleLine 39 = .ok (.bipush 10, 2) := by decide +kernel
theorem dX12_ruleLine_41 : decode cX12_ruleLine 41 = .ok (.if_icmp .ge 20, 3) := by decide +kernel
theorem dX12_ruleLine_44 : decode cX12_ruleLine 44 = .ok (.aload_n 0, 1) := by decide +kernel
theorem dX12_ruleLine_45 : decode cX12_ruleLine 45 = .ok (.getfield 43, 3) := by decide +kernel
theorem dX12_ruleLine_48 : decode cX12_ruleLine 48 = .ok (.iload_n 2, 1) := by decide +kernel
theorem dX12_ruleLine_49 : decode cX12_ruleLine 49 = .ok (.iload 4, 2) := by decide +kernel
theorem dX12_ruleLine_51 : decode cX12_ruleLine 51 = .ok (.iadd, 1) := by decide +kernel
theorem dX12_ruleLine_52 : decode cX12_ruleLine 52 = .ok (.iload 4, 2) := by decide +kernel
theorem dX12_ruleLine_54 : decode cX12_ruleLine 54 = .ok (.iastore, 1) := by decide +kernel
theorem dX12_ruleLine_55 : decode cX12_ruleLine 55 = .ok (.iinc 4 1, 3) := by decide +kernel
theorem dX12_ruleLine_58 : decode cX12_ruleLine 58 = .ok (.goto (-21), 3) := by decide +kernel
theorem dX12_ruleLine_61 : decode cX12_ruleLine 61 = .ok (.aload_n 0, 1) := by decide +kernel
theorem dX12_ruleLine_62 : decode cX12_ruleLine 62 = .ok (.ldc2_w 181, 3) := by decide +kernel
theorem dX12_ruleLine_65 : decode cX12_ruleLine 65 = .ok (.invokevirtual 135, 3) := by decide +kernel
theorem dX12_ruleLine_68 : decode cX12_ruleLine 68 = .ok (.ifCond .eq 50, 3) := by decide +kernel
theorem dX12_ruleLine_71 : decode cX12_ruleLine 71 = .ok (.aload_n 0, 1) := by decide +kernel
theorem dX12_ruleLine_72 : decode cX12_ruleLine 72 = .ok (.invokevirtual 139, 3) := by decide +kernel
theorem dX12_ruleLine_75 : decode cX12_ruleLine 75 = .ok (.aload_n 0, 1) := by decide +kernel
theorem dX12_ruleLine_76 : decode cX12_ruleLine 76 = .ok (.iconst 1, 1) := by decide +kernel
theorem dX12_ruleLine_77 : decode cX12_ruleLine 77 = .ok (.bipush 9, 2) := by decide +kernel
theorem dX12_ruleLine_79 : decode cX12_ruleLine 79 = .ok (.invokevirtual 152, 3) := by decide +kernel
theorem dX12_ruleLine_82 : decode cX12_ruleLine 82 = .ok (.istore 4, 2) := by decide +kernel
theorem dX12_ruleLine_84 : decode cX12_ruleLine 84 = .ok (.iconst 0, 1) := by decide +kernel
theorem dX12_ruleLine_85 : decode cX12_ruleLine 85 = .ok (.istore 5, 2) := by decide +kernel
theorem dX12_ruleLine_87 : decode cX12_ruleLine 87 = .ok (.iload 5, 2) := by decide +kernel
theorem dX12_ruleLine_89 : decode cX12_ruleLine 89 = .ok (.iload_n 3, 1) := by decide +kernel
theorem dX12_ruleLine_90 : decode cX12_ruleLine 90 = .ok (.if_icmp .ge 25, 3) := by decide +kernel
theorem dX12_ruleLine_93 : decode cX12_ruleLine 93 = .ok (.aload_n 0, 1) := by decide +kernel
theorem dX12_ruleLine_94 : decode cX12_ruleLine 94 = .ok (.getfield 43, 3) := by decide +kernel
theorem dX12_ruleLine_97 : decode cX12_ruleLine 97 = .ok (.iload_n 2, 1) := by decide +kernel
theorem dX12_ruleLine_98 : decode cX12_ruleLine 98 = .ok (.iload 5, 2) := by decide +kernel
theorem dX12_ruleLine_100 : decode cX12_ruleLine 100 = .ok (.iadd, 1) := by decide +kernel
theorem dX12_ruleLine_101 : decode cX12_ruleLine 101 = .ok (.iload 5, 2) := by decide +kernel
theorem dX12_ruleLine_103 : decode cX12_ruleLine 103 = .ok (.iload 4, 2) := by decide +kernel
theorem dX12_ruleLine_105 : decode cX12_ruleLine 105 = .ok (.iadd, 1) := by decide +kernel
theorem dX12_ruleLine_106 : decode cX12_ruleLine 106 = .ok (.iload_n 3, 1) := by decide +kernel
theorem dX12_ruleLine_107 : decode cX12_ruleLine 107 = .ok (.irem, 1) := by decide +kernel
theorem dX12_ruleLine_108 : decode cX12_ruleLine 108 = .ok (.iastore, 1) := by decide +kernel
theorem dX12_ruleLine_109 : decode cX12_ruleLine 109 = .ok (.iinc 5 1, 3) := by decide +kernel
theorem dX12_ruleLine_112 : decode cX12_ruleLine 112 = .ok (.goto (-25), 3) := by decide +kernel
theorem dX12_ruleLine_115 : decode cX12_ruleLine 115 = .ok (.goto 128, 3) := by decide +kernel
theorem dX12_ruleLine_118 : decode cX12_ruleLine 118 = .ok (.aload_n 0, 1) := by decide +kernel
theorem dX12_ruleLine_119 : decode cX12_ruleLine 119 = .ok (.ldc2_w 183, 3) := by decide +kernel
theorem dX12_ruleLine_122 : decode cX12_ruleLine 122 = .ok (.invokevirtual 135, 3) := by decide +kernel
theorem dX12_ruleLine_125 : decode cX12_ruleLine 125 = .ok (.ifCond .ne 13, 3) := by decide +kernel
theorem dX12_ruleLine_128 : decode cX12_ruleLine 128 = .ok (.aload_n 0, 1) := by decide +kernel
theorem dX12_ruleLine_129 : decode cX12_ruleLine 129 = .ok (.ldc2_w 185, 3) := by decide +kernel
theorem dX12_ruleLine_132 : decode cX12_ruleLine 132 = .ok (.invokevirtual 135, 3) := by decide +kernel
theorem dX12_ruleLine_135 : decode cX12_ruleLine 135 = .ok (.ifCond .eq 101, 3) := by decide +kernel
theorem dX12_ruleLine_138 : decode cX12_ruleLine 138 = .ok (.aload_n 0, 1) := by decide +kernel
theorem dX12_ruleLine_139 : decode cX12_ruleLine 139 = .ok (.ldc2_w 185, 3) := by decide +kernel
theorem dX12_ruleLine_142 : decode cX12_ruleLine 142 = .ok (.invokevirtual 135, 3) := by decide +kernel
theorem dX12_ruleLine_145 : decode cX12_ruleLine 145 = .ok (.istore 4, 2) := by decide +kernel
theorem dX12_ruleLine_147 : decode cX12_ruleLine 147 = .ok (.aload_n 0, 1) := by decide +kernel
theorem dX12_ruleLine_148 : decode cX12_ruleLine 148 = .ok (.invokevirtual 139, 3) := by decide +kernel
theorem dX12_ruleLine_151 : decode cX12_ruleLine 151 = .ok (.aload_n 0, 1) := by decide +kernel
theorem dX12_ruleLine_152 : decode cX12_ruleLine 152 = .ok (.invokevirtual 177, 3) := by decide +kernel
theorem dX12_ruleLine_155 : decode cX12_ruleLine 155 = .ok (.istore 5, 2) := by decide +kernel
theorem dX12_ruleLine_157 : decode cX12_ruleLine 157 = .ok (.aload_n 0, 1) := by decide +kernel
theorem dX12_ruleLine_158 : decode cX12_ruleLine 158 = .ok (.iload 5, 2) := by decide +kernel
theorem dX12_ruleLine_160 : decode cX12_ruleLine 160 = .ok (.iload 5, 2) := by decide +kernel
theorem dX12_ruleLine_162 : decode cX12_ruleLine 162 = .ok (.invokevirtual 187, 3) := by decide +kernel
theorem dX12_ruleLine_165 : decode cX12_ruleLine 165 = .ok (.istore 6, 2) := by decide +kernel
theorem dX12_ruleLine_167 : decode cX12_ruleLine 167 = .ok (.iload 4, 2) := by decide +kernel
theorem dX12_ruleLine_169 : decode cX12_ruleLine 169 = .ok (.ifCond .eq 14, 3) := by decide +kernel
theorem dX12_ruleLine_172 : decode cX12_ruleLine 172 = .ok (.aload_n 0, 1) := by decide +kernel
theorem dX12_ruleLine_173 : decode cX12_ruleLine 173 = .ok (.iload 5, 2) := by decide +kernel
theorem dX12_ruleLine_175 : decode cX12_ruleLine 175 = .ok (.iload 6, 2) := by decide +kernel
theorem dX12_ruleLine_177 : decode cX12_ruleLine 177 = .ok (.invokevirtual 187, 3) := by decide +kernel
theorem dX12_ruleLine_180 : decode cX12_ruleLine 180 = .ok (.goto 5, 3) := by decide +kernel
theorem dX12_ruleLine_183 : decode cX12_ruleLine 183 = .ok (.iload 5, 2) := by decide +kernel
theorem dX12_ruleLine_185 : decode cX12_ruleLine 185 = .ok (.istore 7, 2) := by decide +kernel
theorem dX12_ruleLine_187 : decode cX12_ruleLine 187 = .ok (.aload_n 0, 1) := by decide +kernel
theorem dX12_ruleLine_188 : decode cX12_ruleLine 188 = .ok (.getfield 129, 3) := by decide +kernel
theorem dX12_ruleLine_191 : decode cX12_ruleLine 191 = .ok (.ifCond .eq 4, 3) := by decide +kernel
theorem dX12_ruleLine_194 : decode cX12_ruleLine 194 = .ok (.return_, 1) := by decide +kernel
theorem dX12_ruleLine_195 : decode cX12_ruleLine 195 = .ok (.aload_n 0, 1) := by decide +kernel
theorem dX12_ruleLine_196 : decode cX12_ruleLine 196 = .ok (.getfield 43, 3) := by decide +kernel
theorem dX12_ruleLine_199 : decode cX12_ruleLine 199 = .ok (.iload_n 2, 1) := by decide +kernel
theorem dX12_ruleLine_200 : decode cX12_ruleLine 200 = .ok (.iload 5, 2) := by decide +kernel
theorem dX12_ruleLine_202 : decode cX12_ruleLine 202 = .ok (.iadd, 1) := by decide +kernel
theorem dX12_ruleLine_203 : decode cX12_ruleLine 203 = .ok (.iload 6, 2) := by decide +kernel
theorem dX12_ruleLine_205 : decode cX12_ruleLine 205 = .ok (.iastore, 1) := by decide +kernel
theorem dX12_ruleLine_206 : decode cX12_ruleLine 206 = .ok (.aload_n 0, 1) := by decide +kernel
theorem dX12_ruleLine_207 : decode cX12_ruleLine 207 = .ok (.getfield 43, 3) := by decide +kernel
theorem dX12_ruleLine_210 : decode cX12_ruleLine 210 = .ok (.iload_n 2, 1) := by decide +kernel
theorem dX12_ruleLine_211 : decode cX12_ruleLine 211 = .ok (.iload 6, 2) := by decide +kernel
theorem dX12_ruleLine_213 : decode cX12_ruleLine 213 = .ok (.iadd, 1) := by decide +kernel
theorem dX12_ruleLine_214 : decode cX12_ruleLine 214 = .ok (.iload 7, 2) := by decide +kernel
theorem dX12_ruleLine_216 : decode cX12_ruleLine 216 = .ok (.iastore, 1) := by decide +kernel
theorem dX12_ruleLine_217 : decode cX12_ruleLine 217 = .ok (.iload 4, 2) := by decide +kernel
theorem dX12_ruleLine_219 : decode cX12_ruleLine 219 = .ok (.ifCond .eq 14, 3) := by decide +kernel
theorem dX12_ruleLine_222 : decode cX12_ruleLine 222 = .ok (.aload_n 0, 1) := by decide +kernel
theorem dX12_ruleLine_223 : decode cX12_ruleLine 223 = .ok (.getfield 43, 3) := by decide +kernel
theorem dX12_ruleLine_226 : decode cX12_ruleLine 226 = .ok (.iload_n 2, 1) := by decide +kernel
theorem dX12_ruleLine_227 : decode cX12_ruleLine 227 = .ok (.iload 7, 2) := by decide +kernel
theorem dX12_ruleLine_229 : decode cX12_ruleLine 229 = .ok (.iadd, 1) := by decide +kernel
theorem dX12_ruleLine_230 : decode cX12_ruleLine 230 = .ok (.iload 5, 2) := by decide +kernel
theorem dX12_ruleLine_232 : decode cX12_ruleLine 232 = .ok (.iastore, 1) := by decide +kernel
theorem dX12_ruleLine_233 : decode cX12_ruleLine 233 = .ok (.goto 10, 3) := by decide +kernel
theorem dX12_ruleLine_236 : decode cX12_ruleLine 236 = .ok (.aload_n 0, 1) := by decide +kernel
theorem dX12_ruleLine_237 : decode cX12_ruleLine 237 = .ok (.ldc2_w 190, 3) := by decide +kernel
theorem dX12_ruleLine_240 : decode cX12_ruleLine 240 = .ok (.invokevirtual 148, 3) := by decide +kernel
theorem dX12_ruleLine_243 : decode cX12_ruleLine 243 = .ok (.aload_n 0, 1) := by decide +kernel
theorem dX12_ruleLine_244 : decode cX12_ruleLine 244 = .ok (.getfield 40, 3) := by decide +kernel
theorem dX12_ruleLine_247 : decode cX12_ruleLine 247 = .ok (.iload_n 1, 1) := by decide +kernel
theorem dX12_ruleLine_248 : decode cX12_ruleLine 248 = .ok (.dup2, 1) := by decide +kernel
theorem dX12_ruleLine_249 : decode cX12_ruleLine 249 = .ok (.iaload, 1) := by decide +kernel
theorem dX12_ruleLine_250 : decode cX12_ruleLine 250 = .ok (.iconst 1, 1) := by decide +kernel
theorem dX12_ruleLine_251 : decode cX12_ruleLine 251 = .ok (.iadd, 1) := by decide +kernel
theorem dX12_ruleLine_252 : decode cX12_ruleLine 252 = .ok (.iastore, 1) := by decide +kernel
theorem dX12_ruleLine_253 : decode cX12_ruleLine 253 = .ok (.return_, 1) := by decide +kernel
theorem mm_kl1 : mm_rl 1 1 1 := ⟨by decide, by decide⟩
theorem mm_kl9 : mm_rl 9 9 9 := ⟨by decide, by decide⟩
theorem hd_X12_otherWord : yX12_otherWord.cls = RX12 ∧ yX12_otherWord.cls ≠ "java/lang/invoke/MethodHandle" ∧ yX12_otherWord.cls ≠ "java/lang/invoke/VarHandle" ∧ (parseMethodDescriptor yX12_otherWord.desc).map (fun d => d.parameters.length) = some 2 := by decide +kernel
set_option maxHeartbeats 4000000 in
set_option maxRecDepth 100000 in
theorem M63_X12_in (l : Launch) (G : va_G) (cy : Nat → ClassId) (sz : Nat) (j_0 : Int64) (j_1 : Int64)   : mm_CI l yX12_in (mm_ws yX12_in cX12_in 6 (some .boolean)) ({ frames := 0, cells := 0, slots := 0, locals := 0 } : Room) G cy sz [] [.long j_0, .long 1, .long j_1] (fun u : Unit => []) (fun (r : Int32) (u : Unit) => ((0 = r ∧ mm_rl j_0 (-9223372036854775808) 9223372036854775807) ∨ (1 = r ∧ mm_rl j_0 1 9223372036854775807 ∧ mm_rl j_1 1 9223372036854775807 ∧ (j_0 : Int64).toInt ≤ (j_1 : Int64).toInt ∧ (1 : Int64).toInt ≤ (j_0 : Int64).toInt))) 0 0 := by
  refine mm_begin (lv := [(0, .long j_0), (2, .long 1), (4, .long j_1)]) (by decide) (Nat.le_of_ble_eq_true rfl) rfl ?_
  intro p e s m below meth c A ls R args Q H locs hRe hQ hAe hx hb hr hlocks hml hown hnm hts hsz hA hS hP hK hD hZ hl
  have hRf : R.frames = 0 := by rw [hRe]
  have hRl : R.locals = 0 := by rw [hRe]
  have hRc : R.cells = 0 := by rw [hRe]
  have hRs : R.slots = 0 := by rw [hRe]
  refine lv_lload_n hx hb dX12_in_0 rfl (lv_at hl 0 rfl) ?_
  refine lv_lload_n hx hb dX12_in_1 rfl (lv_at hl 1 rfl) ?_
  refine W.lcmp hx hb dX12_in_2 ?_
  refine lv_topi (fun v1 ev1 => ?_)
  refine lv_if_lt (tgt := 17) hx hb dX12_in_3 (by decide) (fun c2 => ?_) (fun c2 => ?_)
  · have q3 := mm_ltLl (h := 0) (mm_cmp_lt ev1 c2) (mm_topl j_0) mm_kl1 (by decide)
    refine lv_iconst (v := 0) hx hb dX12_in_17 (by decide) ?_
    subst hAe
    rw [hQ]
    exact W.zret (v := 0) hx hb hr rfl (fun t ht hW => ⟨⟨0, (), rfl, (Or.inl ⟨rfl, (mm_wkl q3 (by decide))⟩), by rw [ht]; exact hP, hK.warm hW, hD⟩, hS.F ht⟩) hS.2.2 dX12_in_18
  · have q4 := mm_leRl (mm_cmp_ge ev1 (mm_n_lt c2)) mm_kl1 (mm_topl j_0)
    refine lv_lload_n hx hb dX12_in_6 rfl (lv_at hl 0 rfl) ?_
    refine lv_lload hx hb dX12_in_7 (lv_at hl 2 rfl) ?_
    refine W.lcmp hx hb dX12_in_9 ?_
    refine lv_topi (fun v5 ev5 => ?_)
    refine lv_if_gt (tgt := 17) hx hb dX12_in_10 (by decide) (fun c6 => ?_) (fun c6 => ?_)
    · have q7 := mm_ltLl (h := 9223372036854775806) (mm_cmp_gt ev5 c6) (mm_topl j_1) q4 (by decide)
      refine lv_iconst (v := 0) hx hb dX12_in_17 (by decide) ?_
      subst hAe
      rw [hQ]
      exact W.zret (v := 0) hx hb hr rfl (fun t ht hW => ⟨⟨0, (), rfl, (Or.inl ⟨rfl, (mm_wkl q4 (by decide))⟩), by rw [ht]; exact hP, hK.warm hW, hD⟩, hS.F ht⟩) hS.2.2 dX12_in_18
    · have q8 := mm_leRl (mm_cmp_le ev5 (mm_n_gt c6)) q4 (mm_topl j_1)
      refine lv_iconst (v := 1) hx hb dX12_in_13 (by decide) ?_
      refine lv_goto (tgt := 18) hx hb dX12_in_14 (by decide) ?_
      have w9 : (j_0 : Int64).toInt ≤ (j_1 : Int64).toInt := (mm_cmp_le ev5 (mm_n_gt c6))
      have w10 : (1 : Int64).toInt ≤ (j_0 : Int64).toInt := (mm_cmp_ge ev1 (mm_n_lt c2))
      subst hAe
      rw [hQ]
      exact W.zret (v := 1) hx hb hr rfl (fun t ht hW => ⟨⟨1, (), rfl, (Or.inr ⟨rfl, q4, q8, w9, w10⟩), by rw [ht]; exact hP, hK.warm hW, hD⟩, hS.F ht⟩) hS.2.2 dX12_in_18

set_option maxHeartbeats 4000000 in
set_option maxRecDepth 100000 in
theorem M64_X12_number (l : Launch) (G : va_G) (cy : Nat → ClassId) (sz : Nat) (a_0 : Nat) (i_0 : Int32) (a_1 : Nat) (a_2 : Nat) (a_3 : Nat) (a_4 : Nat) (a_5 : Nat) (i_1 : Int32) (i_2 : Int32) (i_3 : Int32) (i_4 : Int32) (i_5 : Int32) (j_0 : Int64) (i_6 : Int32) (i_7 : Int32) (i_8 : Int32) (i_9 : Int32) (a_6 : Nat) (a_7 : Nat) (a_8 : Nat) (a_9 : Nat) (a_10 : Nat) (a_11 : Nat) (a_12 : Nat) (a_13 : Nat) (a_14 : Nat) (a_15 : Nat) (a_16 : Nat) (a_17 : Nat) (a_18 : Nat) (i_10 : Int32) (i_11 : Int32) (i_12 : Int32) (i_13 : Int32) (i_14 : Int32) (i_15 : Int32) (a_19 : Nat) (i_16 : Int32) (a_20 : Nat) (f_0 : Nat → Int32) (h0 : mm_rg i_1 0 600) (h1 : mm_rg i_2 0 600) (h2 : mm_rg i_3 0 4) (h3 : mm_rg i_4 0 600) (h4 : mm_rg i_6 0 3) (h5 : mm_ar f_0 (-128) 127) (h6 : (i_4 : Int32).toInt ≤ (i_2 : Int32).toInt) (h7 : (i_2 : Int32).toInt ≤ (i_1 : Int32).toInt) (h8 : mm_tk i_3 i_4 i_2)  : mm_CI l yX12_number (mm_ws yX12_number cX12_number 4 (some .int)) ({ frames := 2, cells := 0, slots := 0, locals := 44 } : Room) G cy sz [(a_0, .inr (12, [.int i_0, .ref a_1, .ref a_2, .ref a_3, .ref a_4, .ref a_5, .int i_1, .int i_2, .int i_3, .int i_4, .int i_5, .long j_0, .int i_6, .int i_7, .int i_8, .int i_9, .ref a_6, .ref a_7, .ref a_8, .ref a_9, .ref a_10, .ref a_11, .ref a_12, .ref a_13, .ref a_14, .ref a_15, .ref a_16, .ref a_17, .ref a_18, .int i_10, .int i_11, .int i_12, .int i_13, .int i_14, .int i_15, .ref a_19, .int i_16, .ref a_20])), (a_5, .inl (cy 0, 600, .inl f_0))] [.ref a_0, .int 1, .int 9] (fun u : Int32 × Int32 × Int32 × Int32 × Int64 × Int32 × Int32 => [(a_0, .inr (12, [.int i_0, .ref a_1, .ref a_2, .ref a_3, .ref a_4, .ref a_5, .int i_1, .int u.1, .int u.2.1, .int u.2.2.1, .int u.2.2.2.1, .long u.2.2.2.2.1, .int u.2.2.2.2.2.1, .int u.2.2.2.2.2.2, .int i_8, .int i_9, .ref a_6, .ref a_7, .ref a_8, .ref a_9, .ref a_10, .ref a_11, .ref a_12, .ref a_13, .ref a_14, .ref a_15, .ref a_16, .ref a_17, .ref a_18, .int i_10, .int i_11, .int i_12, .int i_13, .int i_14, .int i_15, .ref a_19, .int i_16, .ref a_20])), (a_5, .inl (cy 0, 600, .inl f_0))]) (fun (r : Int32) (u : Int32 × Int32 × Int32 × Int32 × Int64 × Int32 × Int32) => mm_rg u.1 0 600 ∧ mm_rg u.2.1 0 4 ∧ mm_rg u.2.2.1 0 600 ∧ mm_rg u.2.2.2.2.2.1 0 3 ∧ (u.2.2.1 : Int32).toInt ≤ (u.1 : Int32).toInt ∧ (u.1 : Int32).toInt ≤ (i_1 : Int32).toInt ∧ mm_tk u.2.1 u.2.2.1 u.1 ∧ (i_4 : Int32).toInt ≤ (u.2.2.1 : Int32).toInt ∧ mm_b0 i_6 u.2.2.2.2.2.1 ∧ mm_rg r 1 9 ∧ (r : Int32).toInt ≤ (9 : Int32).toInt ∧ mm_nv u.2.2.2.2.2.1 r i_3 i_5) 0 0 := by
  refine mm_begin (lv := [(0, .ref a_0), (1, .int 1), (2, .int 9)]) (by decide) (Nat.le_of_ble_eq_true rfl) rfl ?_
  intro p e s m below meth c A ls R args Q H locs hRe hQ hAe hx hb hr hlocks hml hown hnm hts hsz hA hS hP hK hD hZ hl
  have hRf : R.frames = 2 := by rw [hRe]
  have hRl : R.locals = 44 := by rw [hRe]
  have hRc : R.cells = 0 := by rw [hRe]
  have hRs : R.slots = 0 := by rw [hRe]
  refine lv_aload_n hx hb dX12_number_0 rfl (lv_at hl 0 rfl) ?_
  refine va_get (D := G) (ci := 12) (v := .int i_6) (C := RX12) (T := TX12) (N := 38) hx hb hts (mm_i inlX12) hown hK.1 hP 0 rfl rfl 12 (by decide) (mm_h hts mm_w436) (fun _ h9 => h9) rfl dX12_number_1 ?_
  refine lv_if_eq (tgt := 9) hx hb dX12_number_4 (by decide) (fun c1 => ?_) (fun c1 => ?_)
  · have q2 := mm_eqI (lo := 0) (hi := 0) c1 h4 mm_k0 (by decide)
    refine lv_aload_n hx hb dX12_number_9 rfl (lv_at hl 0 rfl) ?_
    refine va_get (D := G) (ci := 12) (v := .int i_3) (C := RX12) (T := TX12) (N := 38) hx hb hts (mm_i inlX12) hown hK.1 hP 0 rfl rfl 8 (by decide) (mm_h hts mm_w432) (fun _ h9 => h9) rfl dX12_number_10 ?_
    refine lv_iconst (v := 2) hx hb dX12_number_13 (by decide) ?_
    refine lv_icmp_eq (tgt := 24) hx hb dX12_number_14 (by decide) (fun c3 => ?_) (fun c3 => ?_)
    · have q4 := mm_eqI (lo := 2) (hi := 2) c3 h2 mm_k2 (by decide)
      refine lv_aload_n hx hb dX12_number_24 rfl (lv_at hl 0 rfl) ?_
      refine va_get (D := G) (ci := 12) (v := .int i_5) (C := RX12) (T := TX12) (N := 38) hx hb hts (mm_i inlX12) hown hK.1 hP 0 rfl rfl 10 (by decide) (mm_h hts mm_w456) (fun _ h9 => h9) rfl dX12_number_25 ?_
      obtain ⟨v5, ev5⟩ : ∃ y : Int64, y = i_5.toInt64 := ⟨_, rfl⟩
      refine lv_i2l hx hb dX12_number_28 ev5.symm ?_
      have rv5 : mm_rl v5 (-2147483648) 2147483647 := mm_i2l ev5 (mm_top i_5)
      refine lv_iload_n hx hb dX12_number_29 rfl (lv_at hl 1 rfl) ?_
      refine lv_i2l (v := 1) hx hb dX12_number_30 (by decide) ?_
      refine lv_iload_n hx hb dX12_number_31 rfl (lv_at hl 2 rfl) ?_
      refine lv_i2l (v := 9) hx hb dX12_number_32 (by decide) ?_
      refine mm_finir (va_runS (As := [.long v5, .long 1, .long 9]) (rest := []) ⟨hx, hb, hml, hown, hts⟩ (M63_X12_in l G cy H.size v5 9 ) (va_cwS 3 hts (mm_gS mm_w191 mm_w192 mm_w5 mm_w193) rfl rfl rfl hs_X12_in ⟨by rw [hRf]; exact Nat.le_of_ble_eq_true rfl, by rw [hRl]; exact Nat.le_of_ble_eq_true rfl⟩) (mm_preS hK hZ hS hA hP hD [] rfl rfl) rfl rfl hl.1 rfl (lv_room (Nat.le_of_ble_eq_true rfl)) dX12_number_33 ⟨by rw [hRc]; exact Nat.le_of_ble_eq_true rfl, by rw [hRs]; exact Nat.le_of_ble_eq_true rfl⟩) hP hD hS hA [] rfl (fun _ => rfl) ?_
      clear hP hD hS
      clear H locs
      intro v6 _u H locs hw hP hD hS
      rcases hw with ⟨rfl, w7⟩ | ⟨rfl, w8, w9, w10, w11⟩
      · refine lv_if_ne (tgt := 46) hx hb dX12_number_36 (by decide) (fun c12 => ?_) (fun c12 => ?_)
        · have q13 := mm_neL (lo := 1) (mm_ne c12) mm_k0 mm_k0 (by decide) (by decide)
          exact mm_no q13 (by decide)
        · refine lv_aload_n hx hb dX12_number_39 rfl (lv_at hl 0 rfl) ?_
          refine lv_iconst (v := 2) hx hb dX12_number_40 (by decide) ?_
          refine mm_finv (va_runV (As := [.int 2]) (rest := []) ⟨hx, hb, hml, hown, hts⟩ (M29_X12_fails l G cy H.size a_0 i_0 a_1 a_2 a_3 a_4 a_5 i_1 i_2 i_3 i_4 i_5 j_0 i_6 i_7 i_8 i_9 a_6 a_7 a_8 a_9 a_10 a_11 a_12 a_13 a_14 a_15 a_16 a_17 a_18 i_10 i_11 i_12 i_13 i_14 i_15 a_19 i_16 a_20 h3 (mm_wk q2 (by decide))) (cwV 1 hts (mm_gV mm_w483 mm_w484 mm_w485 mm_w5 mm_w486) rfl rfl rfl hd_X12_fails ⟨by rw [hRf]; exact Nat.le_of_ble_eq_true rfl, by rw [hRl]; exact Nat.le_of_ble_eq_true rfl⟩) (mm_preV hK hZ hS hA hP hD [0] rfl rfl 0 rfl rfl rfl) rfl rfl hl.1 rfl (lv_room (Nat.le_of_ble_eq_true rfl)) dX12_number_41 ⟨by rw [hRc]; exact Nat.le_of_ble_eq_true rfl, by rw [hRs]; exact Nat.le_of_ble_eq_true rfl⟩) hP hD hS hA (fun u : Int32 × Int32 => [(a_0, .inr (12, [.int i_0, .ref a_1, .ref a_2, .ref a_3, .ref a_4, .ref a_5, .int i_1, .int i_2, .int i_3, .int i_4, .int i_5, .long j_0, .int u.1, .int u.2, .int i_8, .int i_9, .ref a_6, .ref a_7, .ref a_8, .ref a_9, .ref a_10, .ref a_11, .ref a_12, .ref a_13, .ref a_14, .ref a_15, .ref a_16, .ref a_17, .ref a_18, .int i_10, .int i_11, .int i_12, .int i_13, .int i_14, .int i_15, .ref a_19, .int i_16, .ref a_20])), (a_5, .inl (cy 0, 600, .inl f_0))]) [0] [1] (n := 2) (fun _ => rfl) (by decide +kernel) (by decide +kernel) rfl (fun _ => rfl) (wr := [(a_5, .inl (cy 0, 600, .inl f_0))]) rfl (fun _ => rfl) (fun _ => rfl) ?_
          clear hP hD hS
          clear H locs
          intro u
          obtain ⟨n14, n15⟩ := u
          intro H locs hw (hP : va_P G vwCl [(a_0, .inr (12, [.int i_0, .ref a_1, .ref a_2, .ref a_3, .ref a_4, .ref a_5, .int i_1, .int i_2, .int i_3, .int i_4, .int i_5, .long j_0, .int n14, .int n15, .int i_8, .int i_9, .ref a_6, .ref a_7, .ref a_8, .ref a_9, .ref a_10, .ref a_11, .ref a_12, .ref a_13, .ref a_14, .ref a_15, .ref a_16, .ref a_17, .ref a_18, .int i_10, .int i_11, .int i_12, .int i_13, .int i_14, .int i_15, .ref a_19, .int i_16, .ref a_20])), (a_5, .inl (cy 0, 600, .inl f_0))] H) (hD : va_D A [(a_0, .inr (12, [.int i_0, .ref a_1, .ref a_2, .ref a_3, .ref a_4, .ref a_5, .int i_1, .int i_2, .int i_3, .int i_4, .int i_5, .long j_0, .int n14, .int n15, .int i_8, .int i_9, .ref a_6, .ref a_7, .ref a_8, .ref a_9, .ref a_10, .ref a_11, .ref a_12, .ref a_13, .ref a_14, .ref a_15, .ref a_16, .ref a_17, .ref a_18, .int i_10, .int i_11, .int i_12, .int i_13, .int i_14, .int i_15, .ref a_19, .int i_16, .ref a_20])), (a_5, .inl (cy 0, 600, .inl f_0))]) hS
          have w16 := hw
          refine lv_iload_n hx hb dX12_number_44 rfl (lv_at hl 1 rfl) ?_
          have w17 : (i_4 : Int32).toInt ≤ (i_4 : Int32).toInt := (Int.le_refl _)
          have w18 : mm_b0 i_6 n14 := (mm_b0_n w16 (by decide))
          have w19 : (1 : Int32).toInt ≤ (9 : Int32).toInt := (mm_leC mm_k1 mm_k9 (by decide))
          have w20 : mm_nv n14 1 i_3 i_5 := (mm_nv_n w16 (by decide))
          subst hAe
          rw [hQ]
          exact W.iret (v := 1) hx hb hr (fun t ht hW => ⟨⟨1, (i_2, i_3, i_4, i_5, j_0, n14, n15), rfl, ⟨h1, (mm_wk q4 (by decide)), h3, (mm_wk w16 (by decide)), h6, h7, h8, w17, w18, ⟨(mm_wk mm_k1 (by decide)), w19, w20⟩⟩, by rw [ht]; exact hP, hK.warm hW, hD⟩, hS.F ht⟩) hS.2.2 dX12_number_45
      · have q21 := mm_meetl (lo := 1) (hi := 2147483647) w8 rv5 (by decide)
        have q22 := mm_meet (lo := 1) (hi := 2147483647) (mm_l2x ev5 q21) (mm_top i_5) (by decide)
        have q23 := mm_leLl w10 q21 mm_kl9
        have q24 := mm_meet (lo := 1) (hi := 9) (mm_l2x ev5 q23) q22 (by decide)
        refine lv_if_ne (tgt := 46) hx hb dX12_number_36 (by decide) (fun c25 => ?_) (fun c25 => ?_)
        · refine lv_aload_n hx hb dX12_number_46 rfl (lv_at hl 0 rfl) ?_
          refine va_get (D := G) (ci := 12) (v := .int i_5) (C := RX12) (T := TX12) (N := 38) hx hb hts (mm_i inlX12) hown hK.1 hP 0 rfl rfl 10 (by decide) (mm_h hts mm_w456) (fun _ h9 => h9) rfl dX12_number_47 ?_
          refine lv_istore_n (lv' := [(3, .int i_5), (0, .ref a_0), (1, .int 1), (2, .int 9)]) hx hb dX12_number_50 rfl hl (by decide) rfl ?_
          clear hl
          clear ls
          intro ls hl
          refine lv_aload_n hx hb dX12_number_51 rfl (lv_at hl 1 rfl) ?_
          refine mm_finv (va_runV (As := []) (rest := []) ⟨hx, hb, hml, hown, hts⟩ (M22_X12_next l G cy H.size a_0 i_0 a_1 a_2 a_3 a_4 a_5 i_1 i_2 i_3 i_4 i_5 j_0 i_6 i_7 i_8 i_9 a_6 a_7 a_8 a_9 a_10 a_11 a_12 a_13 a_14 a_15 a_16 a_17 a_18 i_10 i_11 i_12 i_13 i_14 i_15 a_19 i_16 a_20 f_0 h0 h1 (mm_wk q4 (by decide)) h3 h5 h7) (cwV 0 hts (mm_gV mm_w451 mm_w452 mm_w453 mm_w5 mm_w454) rfl rfl rfl hd_X12_next ⟨by rw [hRf]; exact Nat.le_of_ble_eq_true rfl, by rw [hRl]; exact Nat.le_of_ble_eq_true rfl⟩) (mm_preV hK hZ hS hA hP hD [0, 1] rfl rfl 0 rfl rfl rfl) rfl rfl hl.1 rfl (lv_room (Nat.le_of_ble_eq_true rfl)) dX12_number_52 ⟨by rw [hRc]; exact Nat.le_of_ble_eq_true rfl, by rw [hRs]; exact Nat.le_of_ble_eq_true rfl⟩) hP hD hS hA (fun u : Int32 × Int32 × Int32 × Int32 × Int64 => [(a_0, .inr (12, [.int i_0, .ref a_1, .ref a_2, .ref a_3, .ref a_4, .ref a_5, .int i_1, .int u.1, .int u.2.1, .int u.2.2.1, .int u.2.2.2.1, .long u.2.2.2.2, .int i_6, .int i_7, .int i_8, .int i_9, .ref a_6, .ref a_7, .ref a_8, .ref a_9, .ref a_10, .ref a_11, .ref a_12, .ref a_13, .ref a_14, .ref a_15, .ref a_16, .ref a_17, .ref a_18, .int i_10, .int i_11, .int i_12, .int i_13, .int i_14, .int i_15, .ref a_19, .int i_16, .ref a_20])), (a_5, .inl (cy 0, 600, .inl f_0))]) [0, 1] [] (n := 2) (fun _ => rfl) (by decide +kernel) (by decide +kernel) rfl (fun _ => rfl) (wr := []) rfl (fun _ => rfl) (fun _ => rfl) ?_
          clear hP hD hS
          clear H locs
          intro u
          obtain ⟨n26, n27, n28, n29, n30⟩ := u
          intro H locs hw (hP : va_P G vwCl [(a_0, .inr (12, [.int i_0, .ref a_1, .ref a_2, .ref a_3, .ref a_4, .ref a_5, .int i_1, .int n26, .int n27, .int n28, .int n29, .long n30, .int i_6, .int i_7, .int i_8, .int i_9, .ref a_6, .ref a_7, .ref a_8, .ref a_9, .ref a_10, .ref a_11, .ref a_12, .ref a_13, .ref a_14, .ref a_15, .ref a_16, .ref a_17, .ref a_18, .int i_10, .int i_11, .int i_12, .int i_13, .int i_14, .int i_15, .ref a_19, .int i_16, .ref a_20])), (a_5, .inl (cy 0, 600, .inl f_0))] H) (hD : va_D A [(a_0, .inr (12, [.int i_0, .ref a_1, .ref a_2, .ref a_3, .ref a_4, .ref a_5, .int i_1, .int n26, .int n27, .int n28, .int n29, .long n30, .int i_6, .int i_7, .int i_8, .int i_9, .ref a_6, .ref a_7, .ref a_8, .ref a_9, .ref a_10, .ref a_11, .ref a_12, .ref a_13, .ref a_14, .ref a_15, .ref a_16, .ref a_17, .ref a_18, .int i_10, .int i_11, .int i_12, .int i_13, .int i_14, .int i_15, .ref a_19, .int i_16, .ref a_20])), (a_5, .inl (cy 0, 600, .inl f_0))]) hS
          obtain ⟨w31, w32, w33, w34, w35, w36, w37⟩ := hw
          replace w34 : (n28 : Int32).toInt ≤ (n26 : Int32).toInt := w34
          replace w35 : (n26 : Int32).toInt ≤ (i_1 : Int32).toInt := w35
          replace w36 : mm_tk n27 n28 n26 := w36
          replace w37 : (i_2 : Int32).toInt ≤ (n28 : Int32).toInt := w37
          refine lv_iload_n hx hb dX12_number_55 rfl (lv_at hl 0 rfl) ?_
          have w38 : (i_4 : Int32).toInt ≤ (n28 : Int32).toInt := (by have := h6; have := w37; omega)
          have w39 : mm_b0 i_6 i_6 := (fun h => h)
          have w40 : (i_5 : Int32).toInt ≤ (9 : Int32).toInt := (mm_leC q24 mm_k9 (by decide))
          have w41 : mm_nv i_6 i_5 i_3 i_5 := (mm_nv_y q4 (by decide))
          subst hAe
          rw [hQ]
          exact W.iret (v := i_5) hx hb hr (fun t ht hW => ⟨⟨i_5, (n26, n27, n28, n29, n30, i_6, i_7), rfl, ⟨w31, w32, w33, (mm_wk q2 (by decide)), w34, w35, w36, w38, w39, ⟨q24, w40, w41⟩⟩, by rw [ht]; exact hP, hK.warm hW, hD⟩, hS.F ht⟩) hS.2.2 dX12_number_56
        · exact mm_eqN c25.symm mm_k0 mm_k1 (by decide)
    · refine lv_aload_n hx hb dX12_number_17 rfl (lv_at hl 0 rfl) ?_
      refine lv_iconst (v := 1) hx hb dX12_number_18 (by decide) ?_
      refine mm_finv (va_runV (As := [.int 1]) (rest := []) ⟨hx, hb, hml, hown, hts⟩ (M27_X12_fails l G cy H.size a_0 i_0 a_1 a_2 a_3 a_4 a_5 i_1 i_2 i_3 i_4 i_5 j_0 i_6 i_7 i_8 i_9 a_6 a_7 a_8 a_9 a_10 a_11 a_12 a_13 a_14 a_15 a_16 a_17 a_18 i_10 i_11 i_12 i_13 i_14 i_15 a_19 i_16 a_20 h3 (mm_wk q2 (by decide))) (cwV 1 hts (mm_gV mm_w483 mm_w484 mm_w485 mm_w5 mm_w486) rfl rfl rfl hd_X12_fails ⟨by rw [hRf]; exact Nat.le_of_ble_eq_true rfl, by rw [hRl]; exact Nat.le_of_ble_eq_true rfl⟩) (mm_preV hK hZ hS hA hP hD [0] rfl rfl 0 rfl rfl rfl) rfl rfl hl.1 rfl (lv_room (Nat.le_of_ble_eq_true rfl)) dX12_number_19 ⟨by rw [hRc]; exact Nat.le_of_ble_eq_true rfl, by rw [hRs]; exact Nat.le_of_ble_eq_true rfl⟩) hP hD hS hA (fun u : Int32 × Int32 => [(a_0, .inr (12, [.int i_0, .ref a_1, .ref a_2, .ref a_3, .ref a_4, .ref a_5, .int i_1, .int i_2, .int i_3, .int i_4, .int i_5, .long j_0, .int u.1, .int u.2, .int i_8, .int i_9, .ref a_6, .ref a_7, .ref a_8, .ref a_9, .ref a_10, .ref a_11, .ref a_12, .ref a_13, .ref a_14, .ref a_15, .ref a_16, .ref a_17, .ref a_18, .int i_10, .int i_11, .int i_12, .int i_13, .int i_14, .int i_15, .ref a_19, .int i_16, .ref a_20])), (a_5, .inl (cy 0, 600, .inl f_0))]) [0] [1] (n := 2) (fun _ => rfl) (by decide +kernel) (by decide +kernel) rfl (fun _ => rfl) (wr := [(a_5, .inl (cy 0, 600, .inl f_0))]) rfl (fun _ => rfl) (fun _ => rfl) ?_
      clear hP hD hS
      clear H locs
      intro u
      obtain ⟨n42, n43⟩ := u
      intro H locs hw (hP : va_P G vwCl [(a_0, .inr (12, [.int i_0, .ref a_1, .ref a_2, .ref a_3, .ref a_4, .ref a_5, .int i_1, .int i_2, .int i_3, .int i_4, .int i_5, .long j_0, .int n42, .int n43, .int i_8, .int i_9, .ref a_6, .ref a_7, .ref a_8, .ref a_9, .ref a_10, .ref a_11, .ref a_12, .ref a_13, .ref a_14, .ref a_15, .ref a_16, .ref a_17, .ref a_18, .int i_10, .int i_11, .int i_12, .int i_13, .int i_14, .int i_15, .ref a_19, .int i_16, .ref a_20])), (a_5, .inl (cy 0, 600, .inl f_0))] H) (hD : va_D A [(a_0, .inr (12, [.int i_0, .ref a_1, .ref a_2, .ref a_3, .ref a_4, .ref a_5, .int i_1, .int i_2, .int i_3, .int i_4, .int i_5, .long j_0, .int n42, .int n43, .int i_8, .int i_9, .ref a_6, .ref a_7, .ref a_8, .ref a_9, .ref a_10, .ref a_11, .ref a_12, .ref a_13, .ref a_14, .ref a_15, .ref a_16, .ref a_17, .ref a_18, .int i_10, .int i_11, .int i_12, .int i_13, .int i_14, .int i_15, .ref a_19, .int i_16, .ref a_20])), (a_5, .inl (cy 0, 600, .inl f_0))]) hS
      have w44 := hw
      refine lv_iload_n hx hb dX12_number_22 rfl (lv_at hl 1 rfl) ?_
      have w45 : (i_4 : Int32).toInt ≤ (i_4 : Int32).toInt := (Int.le_refl _)
      have w46 : mm_b0 i_6 n42 := (mm_b0_n w44 (by decide))
      have w47 : (1 : Int32).toInt ≤ (9 : Int32).toInt := (mm_leC mm_k1 mm_k9 (by decide))
      have w48 : mm_nv n42 1 i_3 i_5 := (mm_nv_n w44 (by decide))
      subst hAe
      rw [hQ]
      exact W.iret (v := 1) hx hb hr (fun t ht hW => ⟨⟨1, (i_2, i_3, i_4, i_5, j_0, n42, n43), rfl, ⟨h1, h2, h3, (mm_wk w44 (by decide)), h6, h7, h8, w45, w46, ⟨(mm_wk mm_k1 (by decide)), w47, w48⟩⟩, by rw [ht]; exact hP, hK.warm hW, hD⟩, hS.F ht⟩) hS.2.2 dX12_number_23
  · have q49 := mm_neL (lo := 1) (mm_ne c1) h4 mm_k0 (by decide) (by decide)
    refine lv_iload_n hx hb dX12_number_7 rfl (lv_at hl 1 rfl) ?_
    have w50 : (i_4 : Int32).toInt ≤ (i_4 : Int32).toInt := (Int.le_refl _)
    have w51 : mm_b0 i_6 i_6 := (fun h => h)
    have w52 : (1 : Int32).toInt ≤ (9 : Int32).toInt := (mm_leC mm_k1 mm_k9 (by decide))
    have w53 : mm_nv i_6 1 i_3 i_5 := (mm_nv_n q49 (by decide))
    subst hAe
    rw [hQ]
    exact W.iret (v := 1) hx hb hr (fun t ht hW => ⟨⟨1, (i_2, i_3, i_4, i_5, j_0, i_6, i_7), rfl, ⟨h1, h2, h3, (mm_wk q49 (by decide)), h6, h7, h8, w50, w51, ⟨(mm_wk mm_k1 (by decide)), w52, w53⟩⟩, by rw [ht]; exact hP, hK.warm hW, hD⟩, hS.F ht⟩) hS.2.2 dX12_number_8

set_option maxHeartbeats 4000000 in
set_option maxRecDepth 100000 in
theorem M65_X12_ruleLine (l : Launch) (G : va_G) (cy : Nat → ClassId) (sz : Nat) (a_0 : Nat) (i_0 : Int32) (a_1 : Nat) (a_2 : Nat) (a_3 : Nat) (a_4 : Nat) (a_5 : Nat) (i_1 : Int32) (i_2 : Int32) (i_3 : Int32) (i_4 : Int32) (i_5 : Int32) (j_0 : Int64) (i_6 : Int32) (i_7 : Int32) (i_8 : Int32) (i_9 : Int32) (a_6 : Nat) (a_7 : Nat) (a_8 : Nat) (a_9 : Nat) (a_10 : Nat) (a_11 : Nat) (a_12 : Nat) (a_13 : Nat) (a_14 : Nat) (a_15 : Nat) (a_16 : Nat) (a_17 : Nat) (a_18 : Nat) (i_10 : Int32) (i_11 : Int32) (i_12 : Int32) (i_13 : Int32) (i_14 : Int32) (i_15 : Int32) (a_19 : Nat) (i_16 : Int32) (a_20 : Nat) (f_0 : Nat → Int32) (i_17 : Int32) (i_18 : Int32) (i_19 : Int32) (i_20 : Int32) (i_21 : Int32) (i_22 : Int32) (i_23 : Int32) (i_24 : Int32) (i_25 : Int32) (i_26 : Int32) (i_27 : Int32) (i_28 : Int32) (i_29 : Int32) (i_30 : Int32) (i_31 : Int32) (i_32 : Int32) (i_33 : Int32) (i_34 : Int32) (i_35 : Int32) (i_36 : Int32) (i_37 : Int32) (i_38 : Int32) (i_39 : Int32) (i_40 : Int32) (i_41 : Int32) (i_42 : Int32) (i_43 : Int32) (i_44 : Int32) (i_45 : Int32) (i_46 : Int32) (f_1 : Nat → Int32) (f_2 : Nat → Int32) (h0 : mm_rg i_1 0 600) (h1 : mm_rg i_2 0 600) (h2 : mm_rg i_3 0 4) (h3 : mm_rg i_4 0 600) (h4 : mm_rg i_6 0 3) (h5 : mm_ar f_0 (-128) 127) (h6 : mm_rg i_17 0 10) (h7 : mm_rg i_18 0 99) (h8 : mm_rg i_19 0 9) (h9 : mm_rg i_20 0 3) (h10 : mm_rg i_21 0 6) (h11 : mm_rg i_22 0 30) (h12 : mm_rg i_23 0 10) (h13 : mm_rg i_24 0 99) (h14 : mm_rg i_25 0 9) (h15 : mm_rg i_26 0 3) (h16 : mm_rg i_27 0 6) (h17 : mm_rg i_28 0 30) (h18 : mm_rg i_29 0 10) (h19 : mm_rg i_30 0 99) (h20 : mm_rg i_31 0 9) (h21 : mm_rg i_32 0 3) (h22 : mm_rg i_33 0 6) (h23 : mm_rg i_34 0 30) (h24 : mm_rg i_35 0 10) (h25 : mm_rg i_36 0 99) (h26 : mm_rg i_37 0 9) (h27 : mm_rg i_38 0 3) (h28 : mm_rg i_39 0 6) (h29 : mm_rg i_40 0 30) (h30 : mm_rg i_41 0 10) (h31 : mm_rg i_42 0 99) (h32 : mm_rg i_43 0 9) (h33 : mm_rg i_44 1 3) (h34 : mm_rg i_45 0 6) (h35 : mm_rg i_46 0 30) (h36 : mm_ar f_1 0 7) (h37 : mm_ar f_2 0 9) (h38 : mm_rls f_1 f_2 0 i_19 i_20) (h39 : mm_rls f_1 f_2 1 i_25 i_26) (h40 : mm_rls f_1 f_2 2 i_31 i_32) (h41 : mm_rls f_1 f_2 3 i_37 i_38) (h42 : (i_4 : Int32).toInt ≤ (i_2 : Int32).toInt) (h43 : (i_2 : Int32).toInt ≤ (i_1 : Int32).toInt) (h44 : mm_tk i_3 i_4 i_2) (h45 : mm_rq f_1 i_44) (h46 : mm_rls f_1 f_2 4 i_43 i_44)  : mm_CV l yX12_ruleLine (mm_ws yX12_ruleLine cX12_ruleLine 8 (none)) ({ frames := 5, cells := 0, slots := 0, locals := 109 } : Room) G cy sz [(a_0, .inr (12, [.int i_0, .ref a_1, .ref a_2, .ref a_3, .ref a_4, .ref a_5, .int i_1, .int i_2, .int i_3, .int i_4, .int i_5, .long j_0, .int i_6, .int i_7, .int i_8, .int i_9, .ref a_6, .ref a_7, .ref a_8, .ref a_9, .ref a_10, .ref a_11, .ref a_12, .ref a_13, .ref a_14, .ref a_15, .ref a_16, .ref a_17, .ref a_18, .int i_10, .int i_11, .int i_12, .int i_13, .int i_14, .int i_15, .ref a_19, .int i_16, .ref a_20])), (a_5, .inl (cy 0, 600, .inl f_0)), (a_7, .inl (cy 1, 30, .inl (mm_g [i_17, i_18, i_19, i_20, i_21, i_22, i_23, i_24, i_25, i_26, i_27, i_28, i_29, i_30, i_31, i_32, i_33, i_34, i_35, i_36, i_37, i_38, i_39, i_40, i_41, i_42, i_43, i_44, i_45, i_46]))), (a_9, .inl (cy 1, 15, .inl f_1)), (a_10, .inl (cy 1, 1050, .inl f_2))] [.ref a_0] (fun u : Int32 × Int32 × Int32 × Int32 × Int64 × Int32 × Int32 × (Nat → Int32) × (Nat → Int32) => [(a_0, .inr (12, [.int i_0, .ref a_1, .ref a_2, .ref a_3, .ref a_4, .ref a_5, .int i_1, .int u.1, .int u.2.1, .int u.2.2.1, .int u.2.2.2.1, .long u.2.2.2.2.1, .int u.2.2.2.2.2.1, .int u.2.2.2.2.2.2.1, .int i_8, .int i_9, .ref a_6, .ref a_7, .ref a_8, .ref a_9, .ref a_10, .ref a_11, .ref a_12, .ref a_13, .ref a_14, .ref a_15, .ref a_16, .ref a_17, .ref a_18, .int i_10, .int i_11, .int i_12, .int i_13, .int i_14, .int i_15, .ref a_19, .int i_16, .ref a_20])), (a_5, .inl (cy 0, 600, .inl f_0)), (a_7, .inl (cy 1, 30, .inl (mm_g [i_17, i_18, i_19, i_20, i_21, i_22, i_23, i_24, i_25, i_26, i_27, i_28, i_29, i_30, i_31, i_32, i_33, i_34, i_35, i_36, i_37, i_38, i_39, i_40, i_41, i_42, i_43, i_44, i_45, i_46]))), (a_9, .inl (cy 1, 15, .inl u.2.2.2.2.2.2.2.1)), (a_10, .inl (cy 1, 1050, .inl u.2.2.2.2.2.2.2.2))]) (fun u : Int32 × Int32 × Int32 × Int32 × Int64 × Int32 × Int32 × (Nat → Int32) × (Nat → Int32) => mm_rg u.1 0 600 ∧ mm_rg u.2.1 0 4 ∧ mm_rg u.2.2.1 0 600 ∧ mm_rg u.2.2.2.2.2.1 0 3 ∧ mm_ar u.2.2.2.2.2.2.2.1 0 7 ∧ mm_ar u.2.2.2.2.2.2.2.2 0 9 ∧ mm_rls u.2.2.2.2.2.2.2.1 u.2.2.2.2.2.2.2.2 0 i_19 i_20 ∧ mm_rls u.2.2.2.2.2.2.2.1 u.2.2.2.2.2.2.2.2 1 i_25 i_26 ∧ mm_rls u.2.2.2.2.2.2.2.1 u.2.2.2.2.2.2.2.2 2 i_31 i_32 ∧ mm_rls u.2.2.2.2.2.2.2.1 u.2.2.2.2.2.2.2.2 3 i_37 i_38 ∧ (u.2.2.1 : Int32).toInt ≤ (u.1 : Int32).toInt ∧ (u.1 : Int32).toInt ≤ (i_1 : Int32).toInt ∧ mm_tk u.2.1 u.2.2.1 u.1 ∧ (i_4 : Int32).toInt ≤ (u.2.2.1 : Int32).toInt ∧ mm_rls u.2.2.2.2.2.2.2.1 u.2.2.2.2.2.2.2.2 4 i_43 i_44 ∧ mm_fr f_1 u.2.2.2.2.2.2.2.1 12 ∧ mm_fr f_2 u.2.2.2.2.2.2.2.2 840) 0 0 := by
  refine mm_begin (lv := [(0, .ref a_0)]) (by decide) (Nat.le_of_ble_eq_true rfl) rfl ?_
  intro p e s m below meth c A ls R args Q H locs hRe hQ hAe hx hb hr hlocks hml hown hnm hts hsz hA hS hP hK hD hZ hl
  have hRf : R.frames = 5 := by rw [hRe]
  have hRl : R.locals = 109 := by rw [hRe]
  have hRc : R.cells = 0 := by rw [hRe]
  have hRs : R.slots = 0 := by rw [hRe]
  refine lv_bipush (v := 12) hx hb dX12_ruleLine_0 (by decide) ?_
  refine lv_aload_n hx hb dX12_ruleLine_2 rfl (lv_at hl 0 rfl) ?_
  refine lv_iconst (v := 3) hx hb dX12_ruleLine_3 (by decide) ?_
  refine mm_finir (va_runV (As := [.int 3]) (rest := [.int 12]) ⟨hx, hb, hml, hown, hts⟩ (M39_X12_hasRead l G cy H.size a_0 i_0 a_1 a_2 a_3 a_4 a_5 i_1 i_2 i_3 i_4 i_5 j_0 i_6 i_7 i_8 i_9 a_6 a_7 a_8 a_9 a_10 a_11 a_12 a_13 a_14 a_15 a_16 a_17 a_18 i_10 i_11 i_12 i_13 i_14 i_15 a_19 i_16 a_20 i_17 i_18 i_19 i_20 i_21 i_22 i_23 i_24 i_25 i_26 i_27 i_28 i_29 i_30 i_31 i_32 i_33 i_34 i_35 i_36 i_37 i_38 i_39 i_40 i_41 i_42 i_43 i_44 i_45 i_46 h6 h7 h8 h9 h10 h11 h12 h13 h14 h15 h16 h17 h18 h19 h20 h21 h22 h23 h24 h25 h26 h27 h28 h29 h30 h31 h32 (mm_wk h33 (by decide)) h34 h35) (cwV 1 hts (mm_gV mm_w503 mm_w504 mm_w505 mm_w5 mm_w506) rfl rfl rfl hd_X12_hasRead ⟨by rw [hRf]; exact Nat.le_of_ble_eq_true rfl, by rw [hRl]; exact Nat.le_of_ble_eq_true rfl⟩) (mm_preV hK hZ hS hA hP hD [0, 2] rfl rfl 0 rfl rfl rfl) rfl rfl hl.1 rfl (lv_room (Nat.le_of_ble_eq_true rfl)) dX12_ruleLine_4 ⟨by rw [hRc]; exact Nat.le_of_ble_eq_true rfl, by rw [hRs]; exact Nat.le_of_ble_eq_true rfl⟩) hP hD hS hA [0, 2] rfl (fun _ => rfl) ?_
  clear hP hD hS
  clear H locs
  intro v1 _u H locs hw hP hD hS
  subst hw
  refine lv_iadd hx hb dX12_ruleLine_7 ?_
  refine lv_topi (fun v2 ev2 => ?_)
  have rv2 : mm_rg v2 13 15 := mm_add ev2 mm_k12 h33 (by decide) (by decide)
  have tv2 := mm_addEd ev2 mm_k12 h33 (by decide) (k := 12) (by decide)
  refine lv_iconst (v := 1) hx hb dX12_ruleLine_8 (by decide) ?_
  refine lv_isub hx hb dX12_ruleLine_9 ?_
  refine lv_topi (fun v3 ev3 => ?_)
  have rv3 : mm_rg v3 12 14 := mm_sub ev3 rv2 mm_k1 (by decide) (by decide)
  have tv3 := mm_subEc ev3 rv2 mm_k1 (by decide) (k := (-1)) (by decide)
  refine lv_istore_n (lv' := [(1, .int v3), (0, .ref a_0)]) hx hb dX12_ruleLine_10 rfl hl (by decide) rfl ?_
  clear hl
  clear ls
  intro ls hl
  refine lv_bipush (v := 10) hx hb dX12_ruleLine_11 (by decide) ?_
  refine lv_bipush (v := 7) hx hb dX12_ruleLine_13 (by decide) ?_
  refine lv_iload_n hx hb dX12_ruleLine_15 rfl (lv_at hl 0 rfl) ?_
  refine lv_imul hx hb dX12_ruleLine_16 ?_
  refine lv_topi (fun v4 ev4 => ?_)
  have rv4 : mm_rg v4 84 98 := mm_mul ev4 mm_k7 rv3 (by decide) (by decide)
  have tv4 := mm_mulEc ev4 mm_k7 rv3 (by decide) (k := 7) (by decide)
  refine lv_aload_n hx hb dX12_ruleLine_17 rfl (lv_at hl 1 rfl) ?_
  refine va_get (D := G) (ci := 12) (v := .ref a_9) (C := RX12) (T := TX12) (N := 38) hx hb hts (mm_i inlX12) hown hK.1 hP 0 rfl rfl 19 (by decide) (mm_h hts mm_w151) (fun _ h9 => h9) rfl dX12_ruleLine_18 ?_
  refine lv_iload_n hx hb dX12_ruleLine_21 rfl (lv_at hl 0 rfl) ?_
  refine va_iald hx hb hK.1 hP 3 1 rfl rfl (mm_in rv3 (by decide)) dX12_ruleLine_22 ?_
  refine lv_topi (fun v5 ev5 => ?_)
  have rv5 : mm_rg v5 0 7 := mm_eqv ev5 (h36 _)
  have q6 : mm_rg v5 0 6 := mm_rq_ld h45 ev5 rv5 h33 (by have := tv3; have := tv2; omega) (by decide)
  refine lv_iadd hx hb dX12_ruleLine_23 ?_
  refine lv_topi (fun v7 ev7 => ?_)
  have rv7 : mm_rg v7 84 104 := mm_add ev7 rv4 q6 (by decide) (by decide)
  have tv7 := mm_addE ev7 rv4 q6 (by decide)
  refine lv_imul hx hb dX12_ruleLine_24 ?_
  refine lv_topi (fun v8 ev8 => ?_)
  have rv8 : mm_rg v8 840 1040 := mm_mul ev8 mm_k10 rv7 (by decide) (by decide)
  have tv8 := mm_mulEc ev8 mm_k10 rv7 (by decide) (k := 10) (by decide)
  refine lv_istore_n (lv' := [(2, .int v8), (1, .int v3), (0, .ref a_0)]) hx hb dX12_ruleLine_25 rfl hl (by decide) rfl ?_
  clear hl
  clear ls
  intro ls hl
  refine lv_aload_n hx hb dX12_ruleLine_26 rfl (lv_at hl 2 rfl) ?_
  refine lv_iconst (v := 2) hx hb dX12_ruleLine_27 (by decide) ?_
  refine mm_finir (va_runV (As := [.int 2]) (rest := []) ⟨hx, hb, hml, hown, hts⟩ (M37_X12_hasRead l G cy H.size a_0 i_0 a_1 a_2 a_3 a_4 a_5 i_1 i_2 i_3 i_4 i_5 j_0 i_6 i_7 i_8 i_9 a_6 a_7 a_8 a_9 a_10 a_11 a_12 a_13 a_14 a_15 a_16 a_17 a_18 i_10 i_11 i_12 i_13 i_14 i_15 a_19 i_16 a_20 i_17 i_18 i_19 i_20 i_21 i_22 i_23 i_24 i_25 i_26 i_27 i_28 i_29 i_30 i_31 i_32 i_33 i_34 i_35 i_36 i_37 i_38 i_39 i_40 i_41 i_42 i_43 i_44 i_45 i_46 h6 h7 h8 h9 h10 h11 h12 h13 h14 h15 h16 h17 h18 h19 h20 h21 h22 h23 h24 h25 h26 h27 h28 h29 h30 h31 h32 (mm_wk h33 (by decide)) h34 h35) (cwV 1 hts (mm_gV mm_w503 mm_w504 mm_w505 mm_w5 mm_w506) rfl rfl rfl hd_X12_hasRead ⟨by rw [hRf]; exact Nat.le_of_ble_eq_true rfl, by rw [hRl]; exact Nat.le_of_ble_eq_true rfl⟩) (mm_preV hK hZ hS hA hP hD [0, 2] rfl rfl 0 rfl rfl rfl) rfl rfl hl.1 rfl (lv_room (Nat.le_of_ble_eq_true rfl)) dX12_ruleLine_28 ⟨by rw [hRc]; exact Nat.le_of_ble_eq_true rfl, by rw [hRs]; exact Nat.le_of_ble_eq_true rfl⟩) hP hD hS hA [0, 2] rfl (fun _ => rfl) ?_
  clear hP hD hS
  clear H locs
  intro v9 _u H locs hw hP hD hS
  subst hw
  refine lv_iconst (v := 1) hx hb dX12_ruleLine_31 (by decide) ?_
  refine lv_iadd hx hb dX12_ruleLine_32 ?_
  refine lv_topi (fun v10 ev10 => ?_)
  have rv10 : mm_rg v10 1 10 := mm_add ev10 h32 mm_k1 (by decide) (by decide)
  have tv10 := mm_addEc ev10 h32 mm_k1 (by decide) (k := 1) (by decide)
  refine lv_istore_n (lv' := [(3, .int v10), (2, .int v8), (1, .int v3), (0, .ref a_0)]) hx hb dX12_ruleLine_33 rfl hl (by decide) rfl ?_
  clear hl
  clear ls
  intro ls hl
  refine lv_iconst (v := 0) hx hb dX12_ruleLine_34 (by decide) ?_
  refine lv_istore (lv' := [(4, .int 0), (3, .int v10), (2, .int v8), (1, .int v3), (0, .ref a_0)]) hx hb dX12_ruleLine_35 hl (by decide) rfl ?_
  clear hl
  clear ls
  intro ls hl
  have L37_75 : ∀ (n : Nat) (x37_4_71 : Int32) (z37_4_72 : Nat → Int32), mm_rg x37_4_71 0 10 → mm_ar z37_4_72 0 9 → mm_fr f_2 z37_4_72 840 → mm_ag f_2 z37_4_72 v8 → mm_idk z37_4_72 v8 x37_4_71 → (10 - x37_4_71.toInt).toNat < n → ∀ (H : Heap) (locs : List Loc), va_P G vwCl [(a_0, .inr (12, [.int i_0, .ref a_1, .ref a_2, .ref a_3, .ref a_4, .ref a_5, .int i_1, .int i_2, .int i_3, .int i_4, .int i_5, .long j_0, .int i_6, .int i_7, .int i_8, .int i_9, .ref a_6, .ref a_7, .ref a_8, .ref a_9, .ref a_10, .ref a_11, .ref a_12, .ref a_13, .ref a_14, .ref a_15, .ref a_16, .ref a_17, .ref a_18, .int i_10, .int i_11, .int i_12, .int i_13, .int i_14, .int i_15, .ref a_19, .int i_16, .ref a_20])), (a_5, .inl (cy 0, 600, .inl f_0)), (a_7, .inl (cy 1, 30, .inl (mm_g [i_17, i_18, i_19, i_20, i_21, i_22, i_23, i_24, i_25, i_26, i_27, i_28, i_29, i_30, i_31, i_32, i_33, i_34, i_35, i_36, i_37, i_38, i_39, i_40, i_41, i_42, i_43, i_44, i_45, i_46]))), (a_9, .inl (cy 1, 15, .inl f_1)), (a_10, .inl (cy 1, 1050, .inl z37_4_72))] H → va_D A [(a_0, .inr (12, [.int i_0, .ref a_1, .ref a_2, .ref a_3, .ref a_4, .ref a_5, .int i_1, .int i_2, .int i_3, .int i_4, .int i_5, .long j_0, .int i_6, .int i_7, .int i_8, .int i_9, .ref a_6, .ref a_7, .ref a_8, .ref a_9, .ref a_10, .ref a_11, .ref a_12, .ref a_13, .ref a_14, .ref a_15, .ref a_16, .ref a_17, .ref a_18, .int i_10, .int i_11, .int i_12, .int i_13, .int i_14, .int i_15, .ref a_19, .int i_16, .ref a_20])), (a_5, .inl (cy 0, 600, .inl f_0)), (a_7, .inl (cy 1, 30, .inl (mm_g [i_17, i_18, i_19, i_20, i_21, i_22, i_23, i_24, i_25, i_26, i_27, i_28, i_29, i_30, i_31, i_32, i_33, i_34, i_35, i_36, i_37, i_38, i_39, i_40, i_41, i_42, i_43, i_44, i_45, i_46]))), (a_9, .inl (cy 1, 15, .inl f_1)), (a_10, .inl (cy 1, 1050, .inl z37_4_72))] → va_S A s.heap H locs → ∀ (ls : Array Slot), lv_has ls 8 [(4, .int x37_4_71), (3, .int v10), (2, .int v8), (1, .int v3), (0, .ref a_0)] → W p l e R s m args below meth c H locs 0 0 Q (F0 m 37 ls []) := by
    intro n
    induction n with
    | zero => intro x37_4_71 z37_4_72 rx37_4_71 rz37_4_72 w73 w74 w75 hm; exact absurd hm (Nat.not_lt_zero _)
    | succ n ih37 =>
      intro x37_4_71 z37_4_72 rx37_4_71 rz37_4_72 w73 w74 w75 hm37 H locs hP hD hS ls hl
      refine lv_iload hx hb dX12_ruleLine_37 (lv_at hl 0 rfl) ?_
      refine lv_bipush (v := 10) hx hb dX12_ruleLine_39 (by decide) ?_
      refine lv_icmp_ge (tgt := 61) hx hb dX12_ruleLine_41 (by decide) (fun c77 => ?_) (fun c77 => ?_)
      · have q78 := mm_leR (mm_le c77) mm_k10 rx37_4_71
        refine lv_aload_n hx hb dX12_ruleLine_61 rfl (lv_at hl 4 rfl) ?_
        refine lv_ldc2 (v := 10261586) hx hb hown (mm_h hts mm_w528) dX12_ruleLine_62 ?_
        refine mm_finir (va_runV (As := [.long 10261586]) (rest := []) ⟨hx, hb, hml, hown, hts⟩ (M25_X12_is l G cy H.size a_0 10261586 i_0 a_1 a_2 a_3 a_4 a_5 i_1 i_2 i_3 i_4 i_5 j_0 i_6 i_7 i_8 i_9 a_6 a_7 a_8 a_9 a_10 a_11 a_12 a_13 a_14 a_15 a_16 a_17 a_18 i_10 i_11 i_12 i_13 i_14 i_15 a_19 i_16 a_20 h2 h4) (cwV 1 hts (mm_gV mm_w479 mm_w480 mm_w481 mm_w5 mm_w482) rfl rfl rfl hd_X12_is ⟨by rw [hRf]; exact Nat.le_of_ble_eq_true rfl, by rw [hRl]; exact Nat.le_of_ble_eq_true rfl⟩) (mm_preV hK hZ hS hA hP hD [0] rfl rfl 0 rfl rfl rfl) rfl rfl hl.1 rfl (lv_room (Nat.le_of_ble_eq_true rfl)) dX12_ruleLine_65 ⟨by rw [hRc]; exact Nat.le_of_ble_eq_true rfl, by rw [hRs]; exact Nat.le_of_ble_eq_true rfl⟩) hP hD hS hA [0] rfl (fun _ => rfl) ?_
        clear hP hD hS
        clear H locs
        intro v79 _u H locs hw hP hD hS
        rcases hw with rfl | rfl
        · refine lv_if_eq (tgt := 118) hx hb dX12_ruleLine_68 (by decide) (fun c80 => ?_) (fun c80 => ?_)
          · refine lv_aload_n hx hb dX12_ruleLine_118 rfl (lv_at hl 4 rfl) ?_
            refine lv_ldc2 (v := 390787) hx hb hown (mm_h hts mm_w529) dX12_ruleLine_119 ?_
            refine mm_finir (va_runV (As := [.long 390787]) (rest := []) ⟨hx, hb, hml, hown, hts⟩ (M25_X12_is l G cy H.size a_0 390787 i_0 a_1 a_2 a_3 a_4 a_5 i_1 i_2 i_3 i_4 i_5 j_0 i_6 i_7 i_8 i_9 a_6 a_7 a_8 a_9 a_10 a_11 a_12 a_13 a_14 a_15 a_16 a_17 a_18 i_10 i_11 i_12 i_13 i_14 i_15 a_19 i_16 a_20 h2 h4) (cwV 1 hts (mm_gV mm_w479 mm_w480 mm_w481 mm_w5 mm_w482) rfl rfl rfl hd_X12_is ⟨by rw [hRf]; exact Nat.le_of_ble_eq_true rfl, by rw [hRl]; exact Nat.le_of_ble_eq_true rfl⟩) (mm_preV hK hZ hS hA hP hD [0] rfl rfl 0 rfl rfl rfl) rfl rfl hl.1 rfl (lv_room (Nat.le_of_ble_eq_true rfl)) dX12_ruleLine_122 ⟨by rw [hRc]; exact Nat.le_of_ble_eq_true rfl, by rw [hRs]; exact Nat.le_of_ble_eq_true rfl⟩) hP hD hS hA [0] rfl (fun _ => rfl) ?_
            clear hP hD hS
            clear H locs
            intro v81 _u H locs hw hP hD hS
            rcases hw with rfl | rfl
            · refine lv_if_ne (tgt := 138) hx hb dX12_ruleLine_125 (by decide) (fun c82 => ?_) (fun c82 => ?_)
              · have q83 := mm_neL (lo := 1) (mm_ne c82) mm_k0 mm_k0 (by decide) (by decide)
                exact mm_no q83 (by decide)
              · refine lv_aload_n hx hb dX12_ruleLine_128 rfl (lv_at hl 4 rfl) ?_
                refine lv_ldc2 (v := 409469) hx hb hown (mm_h hts mm_w530) dX12_ruleLine_129 ?_
                refine mm_finir (va_runV (As := [.long 409469]) (rest := []) ⟨hx, hb, hml, hown, hts⟩ (M25_X12_is l G cy H.size a_0 409469 i_0 a_1 a_2 a_3 a_4 a_5 i_1 i_2 i_3 i_4 i_5 j_0 i_6 i_7 i_8 i_9 a_6 a_7 a_8 a_9 a_10 a_11 a_12 a_13 a_14 a_15 a_16 a_17 a_18 i_10 i_11 i_12 i_13 i_14 i_15 a_19 i_16 a_20 h2 h4) (cwV 1 hts (mm_gV mm_w479 mm_w480 mm_w481 mm_w5 mm_w482) rfl rfl rfl hd_X12_is ⟨by rw [hRf]; exact Nat.le_of_ble_eq_true rfl, by rw [hRl]; exact Nat.le_of_ble_eq_true rfl⟩) (mm_preV hK hZ hS hA hP hD [0] rfl rfl 0 rfl rfl rfl) rfl rfl hl.1 rfl (lv_room (Nat.le_of_ble_eq_true rfl)) dX12_ruleLine_132 ⟨by rw [hRc]; exact Nat.le_of_ble_eq_true rfl, by rw [hRs]; exact Nat.le_of_ble_eq_true rfl⟩) hP hD hS hA [0] rfl (fun _ => rfl) ?_
                clear hP hD hS
                clear H locs
                intro v84 _u H locs hw hP hD hS
                rcases hw with rfl | rfl
                · refine lv_if_eq (tgt := 236) hx hb dX12_ruleLine_135 (by decide) (fun c85 => ?_) (fun c85 => ?_)
                  · refine lv_aload_n hx hb dX12_ruleLine_236 rfl (lv_at hl 4 rfl) ?_
                    refine lv_ldc2 (v := 358472) hx hb hown (mm_h hts mm_w531) dX12_ruleLine_237 ?_
                    refine mm_finv (va_runV (As := [.long 358472]) (rest := []) ⟨hx, hb, hml, hown, hts⟩ (M28_X12_asks l G cy H.size a_0 358472 i_0 a_1 a_2 a_3 a_4 a_5 i_1 i_2 i_3 i_4 i_5 j_0 i_6 i_7 i_8 i_9 a_6 a_7 a_8 a_9 a_10 a_11 a_12 a_13 a_14 a_15 a_16 a_17 a_18 i_10 i_11 i_12 i_13 i_14 i_15 a_19 i_16 a_20 f_0 h0 h1 h2 h3 h4 h5 h42 h43 h44) (cwV 1 hts (mm_gV mm_w471 mm_w472 mm_w473 mm_w5 mm_w474) rfl rfl rfl hd_X12_asks ⟨by rw [hRf]; exact Nat.le_of_ble_eq_true rfl, by rw [hRl]; exact Nat.le_of_ble_eq_true rfl⟩) (mm_preV hK hZ hS hA hP hD [0, 1] rfl rfl 0 rfl rfl rfl) rfl rfl hl.1 rfl (lv_room (Nat.le_of_ble_eq_true rfl)) dX12_ruleLine_240 ⟨by rw [hRc]; exact Nat.le_of_ble_eq_true rfl, by rw [hRs]; exact Nat.le_of_ble_eq_true rfl⟩) hP hD hS hA (fun u : Int32 × Int32 × Int32 × Int32 × Int64 × Int32 × Int32 => [(a_0, .inr (12, [.int i_0, .ref a_1, .ref a_2, .ref a_3, .ref a_4, .ref a_5, .int i_1, .int u.1, .int u.2.1, .int u.2.2.1, .int u.2.2.2.1, .long u.2.2.2.2.1, .int u.2.2.2.2.2.1, .int u.2.2.2.2.2.2, .int i_8, .int i_9, .ref a_6, .ref a_7, .ref a_8, .ref a_9, .ref a_10, .ref a_11, .ref a_12, .ref a_13, .ref a_14, .ref a_15, .ref a_16, .ref a_17, .ref a_18, .int i_10, .int i_11, .int i_12, .int i_13, .int i_14, .int i_15, .ref a_19, .int i_16, .ref a_20])), (a_5, .inl (cy 0, 600, .inl f_0)), (a_7, .inl (cy 1, 30, .inl (mm_g [i_17, i_18, i_19, i_20, i_21, i_22, i_23, i_24, i_25, i_26, i_27, i_28, i_29, i_30, i_31, i_32, i_33, i_34, i_35, i_36, i_37, i_38, i_39, i_40, i_41, i_42, i_43, i_44, i_45, i_46]))), (a_9, .inl (cy 1, 15, .inl f_1)), (a_10, .inl (cy 1, 1050, .inl z37_4_72))]) [0, 1] [2, 3, 4] (n := 5) (fun _ => rfl) (by decide +kernel) (by decide +kernel) rfl (fun _ => rfl) (wr := [(a_7, .inl (cy 1, 30, .inl (mm_g [i_17, i_18, i_19, i_20, i_21, i_22, i_23, i_24, i_25, i_26, i_27, i_28, i_29, i_30, i_31, i_32, i_33, i_34, i_35, i_36, i_37, i_38, i_39, i_40, i_41, i_42, i_43, i_44, i_45, i_46]))), (a_9, .inl (cy 1, 15, .inl f_1)), (a_10, .inl (cy 1, 1050, .inl z37_4_72))]) rfl (fun _ => rfl) (fun _ => rfl) ?_
                    clear hP hD hS
                    clear H locs
                    intro u
                    obtain ⟨n86, n87, n88, n89, n90, n91, n92⟩ := u
                    intro H locs hw (hP : va_P G vwCl [(a_0, .inr (12, [.int i_0, .ref a_1, .ref a_2, .ref a_3, .ref a_4, .ref a_5, .int i_1, .int n86, .int n87, .int n88, .int n89, .long n90, .int n91, .int n92, .int i_8, .int i_9, .ref a_6, .ref a_7, .ref a_8, .ref a_9, .ref a_10, .ref a_11, .ref a_12, .ref a_13, .ref a_14, .ref a_15, .ref a_16, .ref a_17, .ref a_18, .int i_10, .int i_11, .int i_12, .int i_13, .int i_14, .int i_15, .ref a_19, .int i_16, .ref a_20])), (a_5, .inl (cy 0, 600, .inl f_0)), (a_7, .inl (cy 1, 30, .inl (mm_g [i_17, i_18, i_19, i_20, i_21, i_22, i_23, i_24, i_25, i_26, i_27, i_28, i_29, i_30, i_31, i_32, i_33, i_34, i_35, i_36, i_37, i_38, i_39, i_40, i_41, i_42, i_43, i_44, i_45, i_46]))), (a_9, .inl (cy 1, 15, .inl f_1)), (a_10, .inl (cy 1, 1050, .inl z37_4_72))] H) (hD : va_D A [(a_0, .inr (12, [.int i_0, .ref a_1, .ref a_2, .ref a_3, .ref a_4, .ref a_5, .int i_1, .int n86, .int n87, .int n88, .int n89, .long n90, .int n91, .int n92, .int i_8, .int i_9, .ref a_6, .ref a_7, .ref a_8, .ref a_9, .ref a_10, .ref a_11, .ref a_12, .ref a_13, .ref a_14, .ref a_15, .ref a_16, .ref a_17, .ref a_18, .int i_10, .int i_11, .int i_12, .int i_13, .int i_14, .int i_15, .ref a_19, .int i_16, .ref a_20])), (a_5, .inl (cy 0, 600, .inl f_0)), (a_7, .inl (cy 1, 30, .inl (mm_g [i_17, i_18, i_19, i_20, i_21, i_22, i_23, i_24, i_25, i_26, i_27, i_28, i_29, i_30, i_31, i_32, i_33, i_34, i_35, i_36, i_37, i_38, i_39, i_40, i_41, i_42, i_43, i_44, i_45, i_46]))), (a_9, .inl (cy 1, 15, .inl f_1)), (a_10, .inl (cy 1, 1050, .inl z37_4_72))]) hS
                    obtain ⟨w93, w94, w95, w96, w97, w98, w99, w100⟩ := hw
                    replace w97 : (n88 : Int32).toInt ≤ (n86 : Int32).toInt := w97
                    replace w98 : (n86 : Int32).toInt ≤ (i_1 : Int32).toInt := w98
                    replace w99 : mm_tk n87 n88 n86 := w99
                    replace w100 : (i_4 : Int32).toInt ≤ (n88 : Int32).toInt := w100
                    refine lv_aload_n hx hb dX12_ruleLine_243 rfl (lv_at hl 4 rfl) ?_
                    refine va_get (D := G) (ci := 12) (v := .ref a_9) (C := RX12) (T := TX12) (N := 38) hx hb hts (mm_i inlX12) hown hK.1 hP 0 rfl rfl 19 (by decide) (mm_h hts mm_w151) (fun _ h9 => h9) rfl dX12_ruleLine_244 ?_
                    refine lv_iload_n hx hb dX12_ruleLine_247 rfl (lv_at hl 3 rfl) ?_
                    refine lv_dup2_11 hx hb dX12_ruleLine_248 rfl rfl ?_
                    refine va_iald hx hb hK.1 hP 3 1 rfl rfl (mm_in rv3 (by decide)) dX12_ruleLine_249 ?_
                    refine lv_topi (fun v101 ev101 => ?_)
                    have rv101 : mm_rg v101 0 7 := mm_eqv ev101 (h36 _)
                    have q102 : mm_rg v101 0 6 := mm_rq_ld h45 ev101 rv101 h33 (by have := tv3; have := tv2; omega) (by decide)
                    obtain rfl : v5 = v101 := ev5.trans ev101.symm
                    refine lv_iconst (v := 1) hx hb dX12_ruleLine_250 (by decide) ?_
                    refine lv_iadd hx hb dX12_ruleLine_251 ?_
                    refine lv_topi (fun v103 ev103 => ?_)
                    have rv103 : mm_rg v103 1 7 := mm_add ev103 q6 mm_k1 (by decide) (by decide)
                    have tv103 := mm_addEc ev103 q6 mm_k1 (by decide) (k := 1) (by decide)
                    refine va_iast hx hb hK.1 hP hD hS 3 1 rfl rfl (mm_in rv3 (by decide)) dX12_ruleLine_252 ?_
                    clear hP hD hS
                    clear H locs
                    obtain ⟨g104, eg104⟩ : ∃ z : Nat → Int32, z = upd f_1 v3.toNatClampNeg v103 := ⟨_, rfl⟩
                    rw [← eg104]
                    intro H locs (hP : va_P G vwCl [(a_0, .inr (12, [.int i_0, .ref a_1, .ref a_2, .ref a_3, .ref a_4, .ref a_5, .int i_1, .int n86, .int n87, .int n88, .int n89, .long n90, .int n91, .int n92, .int i_8, .int i_9, .ref a_6, .ref a_7, .ref a_8, .ref a_9, .ref a_10, .ref a_11, .ref a_12, .ref a_13, .ref a_14, .ref a_15, .ref a_16, .ref a_17, .ref a_18, .int i_10, .int i_11, .int i_12, .int i_13, .int i_14, .int i_15, .ref a_19, .int i_16, .ref a_20])), (a_5, .inl (cy 0, 600, .inl f_0)), (a_7, .inl (cy 1, 30, .inl (mm_g [i_17, i_18, i_19, i_20, i_21, i_22, i_23, i_24, i_25, i_26, i_27, i_28, i_29, i_30, i_31, i_32, i_33, i_34, i_35, i_36, i_37, i_38, i_39, i_40, i_41, i_42, i_43, i_44, i_45, i_46]))), (a_9, .inl (cy 1, 15, .inl g104)), (a_10, .inl (cy 1, 1050, .inl z37_4_72))] H) (hD : va_D A [(a_0, .inr (12, [.int i_0, .ref a_1, .ref a_2, .ref a_3, .ref a_4, .ref a_5, .int i_1, .int n86, .int n87, .int n88, .int n89, .long n90, .int n91, .int n92, .int i_8, .int i_9, .ref a_6, .ref a_7, .ref a_8, .ref a_9, .ref a_10, .ref a_11, .ref a_12, .ref a_13, .ref a_14, .ref a_15, .ref a_16, .ref a_17, .ref a_18, .int i_10, .int i_11, .int i_12, .int i_13, .int i_14, .int i_15, .ref a_19, .int i_16, .ref a_20])), (a_5, .inl (cy 0, 600, .inl f_0)), (a_7, .inl (cy 1, 30, .inl (mm_g [i_17, i_18, i_19, i_20, i_21, i_22, i_23, i_24, i_25, i_26, i_27, i_28, i_29, i_30, i_31, i_32, i_33, i_34, i_35, i_36, i_37, i_38, i_39, i_40, i_41, i_42, i_43, i_44, i_45, i_46]))), (a_9, .inl (cy 1, 15, .inl g104)), (a_10, .inl (cy 1, 1050, .inl z37_4_72))]) hS
                    have rg104 : mm_ar g104 0 7 := by rw [eg104]; exact mm_ar_upd (mm_ar_wk h36 (by decide)) (mm_wk rv103 (by decide)) _
                    have w105 : mm_rls g104 z37_4_72 0 i_19 i_20 := (mm_rls_fr h38 (mm_fr_u (mm_fr_r _ _) eg104 rv3 (by decide)) w73 (by decide))
                    have w106 : mm_rls g104 z37_4_72 1 i_25 i_26 := (mm_rls_fr h39 (mm_fr_u (mm_fr_r _ _) eg104 rv3 (by decide)) w73 (by decide))
                    have w107 : mm_rls g104 z37_4_72 2 i_31 i_32 := (mm_rls_fr h40 (mm_fr_u (mm_fr_r _ _) eg104 rv3 (by decide)) w73 (by decide))
                    have w108 : mm_rls g104 z37_4_72 3 i_37 i_38 := (mm_rls_fr h41 (mm_fr_u (mm_fr_r _ _) eg104 rv3 (by decide)) w73 (by decide))
                    have w109 : mm_rls g104 z37_4_72 4 i_43 i_44 := (mm_rls_rule h46 eg104 (by have := tv3; have := tv2; omega) ev5 tv103 (by have := tv8; have := tv7; have := tv4; omega) w74 (mm_pmr_id (mm_idk_w w75 q78 (by decide)) h32 rv8 (by decide)) h33 q6 (by decide))
                    have w110 : mm_fr f_1 g104 12 := (mm_fr_u (mm_fr_r _ _) eg104 rv3 (by decide))
                    subst hAe
                    rw [hQ]
                    exact W.vret hx hb hr (fun t ht hW => ⟨⟨(n86, n87, n88, n89, n90, n91, n92, g104, z37_4_72), rfl, ⟨w93, w94, w95, w96, rg104, rz37_4_72, w105, w106, w107, w108, w97, w98, w99, w100, w109, w110, w73⟩, by rw [ht]; exact hP, hK.warm hW, hD⟩, hS.F ht⟩) hS.2.2 dX12_ruleLine_253
                  · have q111 := mm_neL (lo := 1) (mm_ne c85) mm_k0 mm_k0 (by decide) (by decide)
                    exact mm_no q111 (by decide)
                · refine lv_if_eq (tgt := 236) hx hb dX12_ruleLine_135 (by decide) (fun c112 => ?_) (fun c112 => ?_)
                  · exact mm_eqN c112.symm mm_k0 mm_k1 (by decide)
                  · refine lv_aload_n hx hb dX12_ruleLine_138 rfl (lv_at hl 4 rfl) ?_
                    refine lv_ldc2 (v := 409469) hx hb hown (mm_h hts mm_w530) dX12_ruleLine_139 ?_
                    refine mm_finir (va_runV (As := [.long 409469]) (rest := []) ⟨hx, hb, hml, hown, hts⟩ (M25_X12_is l G cy H.size a_0 409469 i_0 a_1 a_2 a_3 a_4 a_5 i_1 i_2 i_3 i_4 i_5 j_0 i_6 i_7 i_8 i_9 a_6 a_7 a_8 a_9 a_10 a_11 a_12 a_13 a_14 a_15 a_16 a_17 a_18 i_10 i_11 i_12 i_13 i_14 i_15 a_19 i_16 a_20 h2 h4) (cwV 1 hts (mm_gV mm_w479 mm_w480 mm_w481 mm_w5 mm_w482) rfl rfl rfl hd_X12_is ⟨by rw [hRf]; exact Nat.le_of_ble_eq_true rfl, by rw [hRl]; exact Nat.le_of_ble_eq_true rfl⟩) (mm_preV hK hZ hS hA hP hD [0] rfl rfl 0 rfl rfl rfl) rfl rfl hl.1 rfl (lv_room (Nat.le_of_ble_eq_true rfl)) dX12_ruleLine_142 ⟨by rw [hRc]; exact Nat.le_of_ble_eq_true rfl, by rw [hRs]; exact Nat.le_of_ble_eq_true rfl⟩) hP hD hS hA [0] rfl (fun _ => rfl) ?_
                    clear hP hD hS
                    clear H locs
                    intro v113 _u H locs hw hP hD hS
                    rcases hw with rfl | rfl
                    · refine lv_istore (lv' := [(4, .int 0), (3, .int v10), (2, .int v8), (1, .int v3), (0, .ref a_0)]) hx hb dX12_ruleLine_145 hl (by decide) rfl ?_
                      clear hl
                      clear ls
                      intro ls hl
                      refine lv_aload_n hx hb dX12_ruleLine_147 rfl (lv_at hl 4 rfl) ?_
                      refine mm_finv (va_runV (As := []) (rest := []) ⟨hx, hb, hml, hown, hts⟩ (M22_X12_next l G cy H.size a_0 i_0 a_1 a_2 a_3 a_4 a_5 i_1 i_2 i_3 i_4 i_5 j_0 i_6 i_7 i_8 i_9 a_6 a_7 a_8 a_9 a_10 a_11 a_12 a_13 a_14 a_15 a_16 a_17 a_18 i_10 i_11 i_12 i_13 i_14 i_15 a_19 i_16 a_20 f_0 h0 h1 h2 h3 h5 h43) (cwV 0 hts (mm_gV mm_w451 mm_w452 mm_w453 mm_w5 mm_w454) rfl rfl rfl hd_X12_next ⟨by rw [hRf]; exact Nat.le_of_ble_eq_true rfl, by rw [hRl]; exact Nat.le_of_ble_eq_true rfl⟩) (mm_preV hK hZ hS hA hP hD [0, 1] rfl rfl 0 rfl rfl rfl) rfl rfl hl.1 rfl (lv_room (Nat.le_of_ble_eq_true rfl)) dX12_ruleLine_148 ⟨by rw [hRc]; exact Nat.le_of_ble_eq_true rfl, by rw [hRs]; exact Nat.le_of_ble_eq_true rfl⟩) hP hD hS hA (fun u : Int32 × Int32 × Int32 × Int32 × Int64 => [(a_0, .inr (12, [.int i_0, .ref a_1, .ref a_2, .ref a_3, .ref a_4, .ref a_5, .int i_1, .int u.1, .int u.2.1, .int u.2.2.1, .int u.2.2.2.1, .long u.2.2.2.2, .int i_6, .int i_7, .int i_8, .int i_9, .ref a_6, .ref a_7, .ref a_8, .ref a_9, .ref a_10, .ref a_11, .ref a_12, .ref a_13, .ref a_14, .ref a_15, .ref a_16, .ref a_17, .ref a_18, .int i_10, .int i_11, .int i_12, .int i_13, .int i_14, .int i_15, .ref a_19, .int i_16, .ref a_20])), (a_5, .inl (cy 0, 600, .inl f_0)), (a_7, .inl (cy 1, 30, .inl (mm_g [i_17, i_18, i_19, i_20, i_21, i_22, i_23, i_24, i_25, i_26, i_27, i_28, i_29, i_30, i_31, i_32, i_33, i_34, i_35, i_36, i_37, i_38, i_39, i_40, i_41, i_42, i_43, i_44, i_45, i_46]))), (a_9, .inl (cy 1, 15, .inl f_1)), (a_10, .inl (cy 1, 1050, .inl z37_4_72))]) [0, 1] [2, 3, 4] (n := 5) (fun _ => rfl) (by decide +kernel) (by decide +kernel) rfl (fun _ => rfl) (wr := [(a_7, .inl (cy 1, 30, .inl (mm_g [i_17, i_18, i_19, i_20, i_21, i_22, i_23, i_24, i_25, i_26, i_27, i_28, i_29, i_30, i_31, i_32, i_33, i_34, i_35, i_36, i_37, i_38, i_39, i_40, i_41, i_42, i_43, i_44, i_45, i_46]))), (a_9, .inl (cy 1, 15, .inl f_1)), (a_10, .inl (cy 1, 1050, .inl z37_4_72))]) rfl (fun _ => rfl) (fun _ => rfl) ?_
                      clear hP hD hS
                      clear H locs
                      intro u
                      obtain ⟨n114, n115, n116, n117, n118⟩ := u
                      intro H locs hw (hP : va_P G vwCl [(a_0, .inr (12, [.int i_0, .ref a_1, .ref a_2, .ref a_3, .ref a_4, .ref a_5, .int i_1, .int n114, .int n115, .int n116, .int n117, .long n118, .int i_6, .int i_7, .int i_8, .int i_9, .ref a_6, .ref a_7, .ref a_8, .ref a_9, .ref a_10, .ref a_11, .ref a_12, .ref a_13, .ref a_14, .ref a_15, .ref a_16, .ref a_17, .ref a_18, .int i_10, .int i_11, .int i_12, .int i_13, .int i_14, .int i_15, .ref a_19, .int i_16, .ref a_20])), (a_5, .inl (cy 0, 600, .inl f_0)), (a_7, .inl (cy 1, 30, .inl (mm_g [i_17, i_18, i_19, i_20, i_21, i_22, i_23, i_24, i_25, i_26, i_27, i_28, i_29, i_30, i_31, i_32, i_33, i_34, i_35, i_36, i_37, i_38, i_39, i_40, i_41, i_42, i_43, i_44, i_45, i_46]))), (a_9, .inl (cy 1, 15, .inl f_1)), (a_10, .inl (cy 1, 1050, .inl z37_4_72))] H) (hD : va_D A [(a_0, .inr (12, [.int i_0, .ref a_1, .ref a_2, .ref a_3, .ref a_4, .ref a_5, .int i_1, .int n114, .int n115, .int n116, .int n117, .long n118, .int i_6, .int i_7, .int i_8, .int i_9, .ref a_6, .ref a_7, .ref a_8, .ref a_9, .ref a_10, .ref a_11, .ref a_12, .ref a_13, .ref a_14, .ref a_15, .ref a_16, .ref a_17, .ref a_18, .int i_10, .int i_11, .int i_12, .int i_13, .int i_14, .int i_15, .ref a_19, .int i_16, .ref a_20])), (a_5, .inl (cy 0, 600, .inl f_0)), (a_7, .inl (cy 1, 30, .inl (mm_g [i_17, i_18, i_19, i_20, i_21, i_22, i_23, i_24, i_25, i_26, i_27, i_28, i_29, i_30, i_31, i_32, i_33, i_34, i_35, i_36, i_37, i_38, i_39, i_40, i_41, i_42, i_43, i_44, i_45, i_46]))), (a_9, .inl (cy 1, 15, .inl f_1)), (a_10, .inl (cy 1, 1050, .inl z37_4_72))]) hS
                      obtain ⟨w119, w120, w121, w122, w123, w124, w125⟩ := hw
                      replace w122 : (n116 : Int32).toInt ≤ (n114 : Int32).toInt := w122
                      replace w123 : (n114 : Int32).toInt ≤ (i_1 : Int32).toInt := w123
                      replace w124 : mm_tk n115 n116 n114 := w124
                      replace w125 : (i_2 : Int32).toInt ≤ (n116 : Int32).toInt := w125
                      refine lv_aload_n hx hb dX12_ruleLine_151 rfl (lv_at hl 4 rfl) ?_
                      refine mm_fini (va_runV (As := []) (rest := []) ⟨hx, hb, hml, hown, hts⟩ (M48_X12_wordHere l G cy H.size a_0 i_0 a_1 a_2 a_3 a_4 a_5 i_1 n114 n115 n116 n117 n118 i_6 i_7 i_8 i_9 a_6 a_7 a_8 a_9 a_10 a_11 a_12 a_13 a_14 a_15 a_16 a_17 a_18 i_10 i_11 i_12 i_13 i_14 i_15 a_19 i_16 a_20 f_0 i_17 i_18 i_19 i_20 i_21 i_22 i_23 i_24 i_25 i_26 i_27 i_28 i_29 i_30 i_31 i_32 i_33 i_34 i_35 i_36 i_37 i_38 i_39 i_40 i_41 i_42 i_43 i_44 i_45 i_46 h0 w119 w120 w121 h4 h5 h6 h7 h8 h9 h10 h11 h12 h13 h14 h15 h16 h17 h18 h19 h20 h21 h22 h23 h24 h25 h26 h27 h28 h29 h30 h31 h32 (mm_wk h33 (by decide)) h34 h35 w122 w123 w124) (cwV 0 hts (mm_gV mm_w532 mm_w533 mm_w534 mm_w5 mm_w535) rfl rfl rfl hd_X12_wordHere ⟨by rw [hRf]; exact Nat.le_of_ble_eq_true rfl, by rw [hRl]; exact Nat.le_of_ble_eq_true rfl⟩) (mm_preV hK hZ hS hA hP hD [0, 1, 2] rfl rfl 0 rfl rfl rfl) rfl rfl hl.1 rfl (lv_room (Nat.le_of_ble_eq_true rfl)) dX12_ruleLine_152 ⟨by rw [hRc]; exact Nat.le_of_ble_eq_true rfl, by rw [hRs]; exact Nat.le_of_ble_eq_true rfl⟩) hP hD hS hA (fun u : Int32 × Int32 × Int32 × Int32 × Int64 × Int32 × Int32 => [(a_0, .inr (12, [.int i_0, .ref a_1, .ref a_2, .ref a_3, .ref a_4, .ref a_5, .int i_1, .int u.1, .int u.2.1, .int u.2.2.1, .int u.2.2.2.1, .long u.2.2.2.2.1, .int u.2.2.2.2.2.1, .int u.2.2.2.2.2.2, .int i_8, .int i_9, .ref a_6, .ref a_7, .ref a_8, .ref a_9, .ref a_10, .ref a_11, .ref a_12, .ref a_13, .ref a_14, .ref a_15, .ref a_16, .ref a_17, .ref a_18, .int i_10, .int i_11, .int i_12, .int i_13, .int i_14, .int i_15, .ref a_19, .int i_16, .ref a_20])), (a_5, .inl (cy 0, 600, .inl f_0)), (a_7, .inl (cy 1, 30, .inl (mm_g [i_17, i_18, i_19, i_20, i_21, i_22, i_23, i_24, i_25, i_26, i_27, i_28, i_29, i_30, i_31, i_32, i_33, i_34, i_35, i_36, i_37, i_38, i_39, i_40, i_41, i_42, i_43, i_44, i_45, i_46]))), (a_9, .inl (cy 1, 15, .inl f_1)), (a_10, .inl (cy 1, 1050, .inl z37_4_72))]) [0, 1, 2] [3, 4] (n := 5) (fun _ => rfl) (by decide +kernel) (by decide +kernel) rfl (fun _ => rfl) (wr := [(a_9, .inl (cy 1, 15, .inl f_1)), (a_10, .inl (cy 1, 1050, .inl z37_4_72))]) rfl (fun _ => rfl) (fun _ => @rfl _ ([a_0, a_5, a_7] : List Nat)) ?_
                      clear hP hD hS
                      clear H locs
                      intro v133 u
                      obtain ⟨n126, n127, n128, n129, n130, n131, n132⟩ := u
                      intro H locs hw (hP : va_P G vwCl [(a_0, .inr (12, [.int i_0, .ref a_1, .ref a_2, .ref a_3, .ref a_4, .ref a_5, .int i_1, .int n126, .int n127, .int n128, .int n129, .long n130, .int n131, .int n132, .int i_8, .int i_9, .ref a_6, .ref a_7, .ref a_8, .ref a_9, .ref a_10, .ref a_11, .ref a_12, .ref a_13, .ref a_14, .ref a_15, .ref a_16, .ref a_17, .ref a_18, .int i_10, .int i_11, .int i_12, .int i_13, .int i_14, .int i_15, .ref a_19, .int i_16, .ref a_20])), (a_5, .inl (cy 0, 600, .inl f_0)), (a_7, .inl (cy 1, 30, .inl (mm_g [i_17, i_18, i_19, i_20, i_21, i_22, i_23, i_24, i_25, i_26, i_27, i_28, i_29, i_30, i_31, i_32, i_33, i_34, i_35, i_36, i_37, i_38, i_39, i_40, i_41, i_42, i_43, i_44, i_45, i_46]))), (a_9, .inl (cy 1, 15, .inl f_1)), (a_10, .inl (cy 1, 1050, .inl z37_4_72))] H) (hD : va_D A [(a_0, .inr (12, [.int i_0, .ref a_1, .ref a_2, .ref a_3, .ref a_4, .ref a_5, .int i_1, .int n126, .int n127, .int n128, .int n129, .long n130, .int n131, .int n132, .int i_8, .int i_9, .ref a_6, .ref a_7, .ref a_8, .ref a_9, .ref a_10, .ref a_11, .ref a_12, .ref a_13, .ref a_14, .ref a_15, .ref a_16, .ref a_17, .ref a_18, .int i_10, .int i_11, .int i_12, .int i_13, .int i_14, .int i_15, .ref a_19, .int i_16, .ref a_20])), (a_5, .inl (cy 0, 600, .inl f_0)), (a_7, .inl (cy 1, 30, .inl (mm_g [i_17, i_18, i_19, i_20, i_21, i_22, i_23, i_24, i_25, i_26, i_27, i_28, i_29, i_30, i_31, i_32, i_33, i_34, i_35, i_36, i_37, i_38, i_39, i_40, i_41, i_42, i_43, i_44, i_45, i_46]))), (a_9, .inl (cy 1, 15, .inl f_1)), (a_10, .inl (cy 1, 1050, .inl z37_4_72))]) hS
                      obtain ⟨w134, w135, w136, w137, w138, w139, w140, w141, w142, hw⟩ := hw
                      replace w138 : (n128 : Int32).toInt ≤ (n126 : Int32).toInt := w138
                      replace w139 : (n126 : Int32).toInt ≤ (i_1 : Int32).toInt := w139
                      replace w140 : mm_tk n127 n128 n126 := w140
                      replace w141 : (n116 : Int32).toInt ≤ (n128 : Int32).toInt := w141
                      replace w142 : mm_b0 i_6 n131 := w142
                      obtain ⟨w143, w144, w145⟩ := hw
                      replace w144 : (v133 : Int32).toInt ≤ (i_43 : Int32).toInt := w144
                      replace w145 : mm_nv n131 v133 n115 n117 := w145
                      refine lv_istore (lv' := [(5, .int v133), (4, .int 0), (3, .int v10), (2, .int v8), (1, .int v3), (0, .ref a_0)]) hx hb dX12_ruleLine_155 hl (by decide) rfl ?_
                      clear hl
                      clear ls
                      intro ls hl
                      refine lv_aload_n hx hb dX12_ruleLine_157 rfl (lv_at hl 5 rfl) ?_
                      refine lv_iload hx hb dX12_ruleLine_158 (lv_at hl 0 rfl) ?_
                      refine lv_iload hx hb dX12_ruleLine_160 (lv_at hl 0 rfl) ?_
                      refine mm_fini (va_runV (As := [.int v133, .int v133]) (rest := []) ⟨hx, hb, hml, hown, hts⟩ (M62_X12_otherWord l G cy H.size a_0 v133 v133 i_0 a_1 a_2 a_3 a_4 a_5 i_1 n126 n127 n128 n129 n130 n131 n132 i_8 i_9 a_6 a_7 a_8 a_9 a_10 a_11 a_12 a_13 a_14 a_15 a_16 a_17 a_18 i_10 i_11 i_12 i_13 i_14 i_15 a_19 i_16 a_20 f_0 i_17 i_18 i_19 i_20 i_21 i_22 i_23 i_24 i_25 i_26 i_27 i_28 i_29 i_30 i_31 i_32 i_33 i_34 i_35 i_36 i_37 i_38 i_39 i_40 i_41 i_42 i_43 i_44 i_45 i_46 w143 w143 h0 w134 w135 w136 w137 h5 h6 h7 h8 h9 h10 h11 h12 h13 h14 h15 h16 h17 h18 h19 h20 h21 h22 h23 h24 h25 h26 h27 h28 h29 h30 h31 h32 (mm_wk h33 (by decide)) h34 h35 w138 w139 w140) (cwV 2 hts (mm_gV mm_w536 mm_w537 mm_w538 mm_w5 mm_w539) rfl rfl rfl hd_X12_otherWord ⟨by rw [hRf]; exact Nat.le_of_ble_eq_true rfl, by rw [hRl]; exact Nat.le_of_ble_eq_true rfl⟩) (mm_preV hK hZ hS hA hP hD [0, 1, 2] rfl rfl 0 rfl rfl rfl) rfl rfl hl.1 rfl (lv_room (Nat.le_of_ble_eq_true rfl)) dX12_ruleLine_162 ⟨by rw [hRc]; exact Nat.le_of_ble_eq_true rfl, by rw [hRs]; exact Nat.le_of_ble_eq_true rfl⟩) hP hD hS hA (fun u : Int32 × Int32 × Int32 × Int32 × Int64 × Int32 × Int32 => [(a_0, .inr (12, [.int i_0, .ref a_1, .ref a_2, .ref a_3, .ref a_4, .ref a_5, .int i_1, .int u.1, .int u.2.1, .int u.2.2.1, .int u.2.2.2.1, .long u.2.2.2.2.1, .int u.2.2.2.2.2.1, .int u.2.2.2.2.2.2, .int i_8, .int i_9, .ref a_6, .ref a_7, .ref a_8, .ref a_9, .ref a_10, .ref a_11, .ref a_12, .ref a_13, .ref a_14, .ref a_15, .ref a_16, .ref a_17, .ref a_18, .int i_10, .int i_11, .int i_12, .int i_13, .int i_14, .int i_15, .ref a_19, .int i_16, .ref a_20])), (a_5, .inl (cy 0, 600, .inl f_0)), (a_7, .inl (cy 1, 30, .inl (mm_g [i_17, i_18, i_19, i_20, i_21, i_22, i_23, i_24, i_25, i_26, i_27, i_28, i_29, i_30, i_31, i_32, i_33, i_34, i_35, i_36, i_37, i_38, i_39, i_40, i_41, i_42, i_43, i_44, i_45, i_46]))), (a_9, .inl (cy 1, 15, .inl f_1)), (a_10, .inl (cy 1, 1050, .inl z37_4_72))]) [0, 1, 2] [3, 4] (n := 5) (fun _ => rfl) (by decide +kernel) (by decide +kernel) rfl (fun _ => rfl) (wr := [(a_9, .inl (cy 1, 15, .inl f_1)), (a_10, .inl (cy 1, 1050, .inl z37_4_72))]) rfl (fun _ => rfl) (fun _ => @rfl _ ([a_0, a_5, a_7] : List Nat)) ?_
                      clear hP hD hS
                      clear H locs
                      intro v153 u
                      obtain ⟨n146, n147, n148, n149, n150, n151, n152⟩ := u
                      intro H locs hw (hP : va_P G vwCl [(a_0, .inr (12, [.int i_0, .ref a_1, .ref a_2, .ref a_3, .ref a_4, .ref a_5, .int i_1, .int n146, .int n147, .int n148, .int n149, .long n150, .int n151, .int n152, .int i_8, .int i_9, .ref a_6, .ref a_7, .ref a_8, .ref a_9, .ref a_10, .ref a_11, .ref a_12, .ref a_13, .ref a_14, .ref a_15, .ref a_16, .ref a_17, .ref a_18, .int i_10, .int i_11, .int i_12, .int i_13, .int i_14, .int i_15, .ref a_19, .int i_16, .ref a_20])), (a_5, .inl (cy 0, 600, .inl f_0)), (a_7, .inl (cy 1, 30, .inl (mm_g [i_17, i_18, i_19, i_20, i_21, i_22, i_23, i_24, i_25, i_26, i_27, i_28, i_29, i_30, i_31, i_32, i_33, i_34, i_35, i_36, i_37, i_38, i_39, i_40, i_41, i_42, i_43, i_44, i_45, i_46]))), (a_9, .inl (cy 1, 15, .inl f_1)), (a_10, .inl (cy 1, 1050, .inl z37_4_72))] H) (hD : va_D A [(a_0, .inr (12, [.int i_0, .ref a_1, .ref a_2, .ref a_3, .ref a_4, .ref a_5, .int i_1, .int n146, .int n147, .int n148, .int n149, .long n150, .int n151, .int n152, .int i_8, .int i_9, .ref a_6, .ref a_7, .ref a_8, .ref a_9, .ref a_10, .ref a_11, .ref a_12, .ref a_13, .ref a_14, .ref a_15, .ref a_16, .ref a_17, .ref a_18, .int i_10, .int i_11, .int i_12, .int i_13, .int i_14, .int i_15, .ref a_19, .int i_16, .ref a_20])), (a_5, .inl (cy 0, 600, .inl f_0)), (a_7, .inl (cy 1, 30, .inl (mm_g [i_17, i_18, i_19, i_20, i_21, i_22, i_23, i_24, i_25, i_26, i_27, i_28, i_29, i_30, i_31, i_32, i_33, i_34, i_35, i_36, i_37, i_38, i_39, i_40, i_41, i_42, i_43, i_44, i_45, i_46]))), (a_9, .inl (cy 1, 15, .inl f_1)), (a_10, .inl (cy 1, 1050, .inl z37_4_72))]) hS
                      obtain ⟨w154, w155, w156, w157, w158, w159, w160, w161, w162, hw⟩ := hw
                      replace w158 : (n148 : Int32).toInt ≤ (n146 : Int32).toInt := w158
                      replace w159 : (n146 : Int32).toInt ≤ (i_1 : Int32).toInt := w159
                      replace w160 : mm_tk n147 n148 n146 := w160
                      replace w161 : (n128 : Int32).toInt ≤ (n148 : Int32).toInt := w161
                      replace w162 : mm_b0 n131 n151 := w162
                      obtain ⟨w163, w164, w165, w166⟩ := hw
                      replace w164 : (v153 : Int32).toInt ≤ (i_43 : Int32).toInt := w164
                      replace w165 : mm_nq n151 v153 v133 := w165
                      replace w166 : mm_nq n151 v153 v133 := w166
                      refine lv_istore (lv' := [(6, .int v153), (5, .int v133), (4, .int 0), (3, .int v10), (2, .int v8), (1, .int v3), (0, .ref a_0)]) hx hb dX12_ruleLine_165 hl (by decide) rfl ?_
                      clear hl
                      clear ls
                      intro ls hl
                      refine lv_iload hx hb dX12_ruleLine_167 (lv_at hl 2 rfl) ?_
                      refine lv_if_eq (tgt := 183) hx hb dX12_ruleLine_169 (by decide) (fun c167 => ?_) (fun c167 => ?_)
                      · refine lv_iload hx hb dX12_ruleLine_183 (lv_at hl 1 rfl) ?_
                        refine lv_istore (lv' := [(7, .int v133), (6, .int v153), (5, .int v133), (4, .int 0), (3, .int v10), (2, .int v8), (1, .int v3), (0, .ref a_0)]) hx hb dX12_ruleLine_185 hl (by decide) rfl ?_
                        clear hl
                        clear ls
                        intro ls hl
                        refine lv_aload_n hx hb dX12_ruleLine_187 rfl (lv_at hl 7 rfl) ?_
                        refine va_get (D := G) (ci := 12) (v := .int n151) (C := RX12) (T := TX12) (N := 38) hx hb hts (mm_i inlX12) hown hK.1 hP 0 rfl rfl 12 (by decide) (mm_h hts mm_w436) (fun _ h9 => h9) rfl dX12_ruleLine_188 ?_
                        refine lv_if_eq (tgt := 195) hx hb dX12_ruleLine_191 (by decide) (fun c168 => ?_) (fun c168 => ?_)
                        · have q169 := mm_eqI (lo := 0) (hi := 0) c168 w157 mm_k0 (by decide)
                          have q170 : mm_rg n131 0 0 := mm_b0_d w162 q169 (by decide)
                          have q171 : mm_rg i_6 0 0 := mm_b0_d w142 q170 (by decide)
                          refine lv_aload_n hx hb dX12_ruleLine_195 rfl (lv_at hl 7 rfl) ?_
                          refine va_get (D := G) (ci := 12) (v := .ref a_10) (C := RX12) (T := TX12) (N := 38) hx hb hts (mm_i inlX12) hown hK.1 hP 0 rfl rfl 20 (by decide) (mm_h hts mm_w152) (fun _ h9 => h9) rfl dX12_ruleLine_196 ?_
                          refine lv_iload_n hx hb dX12_ruleLine_199 rfl (lv_at hl 5 rfl) ?_
                          refine lv_iload hx hb dX12_ruleLine_200 (lv_at hl 2 rfl) ?_
                          refine lv_iadd hx hb dX12_ruleLine_202 ?_
                          refine lv_topi (fun v172 ev172 => ?_)
                          have rv172 : mm_rg v172 840 1049 := mm_add ev172 rv8 w143 (by decide) (by decide)
                          have tv172 := mm_addE ev172 rv8 w143 (by decide)
                          refine lv_iload hx hb dX12_ruleLine_203 (lv_at hl 1 rfl) ?_
                          refine va_iast hx hb hK.1 hP hD hS 4 1 rfl rfl (mm_in rv172 (by decide)) dX12_ruleLine_205 ?_
                          clear hP hD hS
                          clear H locs
                          obtain ⟨g173, eg173⟩ : ∃ z : Nat → Int32, z = upd z37_4_72 v172.toNatClampNeg v153 := ⟨_, rfl⟩
                          rw [← eg173]
                          intro H locs (hP : va_P G vwCl [(a_0, .inr (12, [.int i_0, .ref a_1, .ref a_2, .ref a_3, .ref a_4, .ref a_5, .int i_1, .int n146, .int n147, .int n148, .int n149, .long n150, .int n151, .int n152, .int i_8, .int i_9, .ref a_6, .ref a_7, .ref a_8, .ref a_9, .ref a_10, .ref a_11, .ref a_12, .ref a_13, .ref a_14, .ref a_15, .ref a_16, .ref a_17, .ref a_18, .int i_10, .int i_11, .int i_12, .int i_13, .int i_14, .int i_15, .ref a_19, .int i_16, .ref a_20])), (a_5, .inl (cy 0, 600, .inl f_0)), (a_7, .inl (cy 1, 30, .inl (mm_g [i_17, i_18, i_19, i_20, i_21, i_22, i_23, i_24, i_25, i_26, i_27, i_28, i_29, i_30, i_31, i_32, i_33, i_34, i_35, i_36, i_37, i_38, i_39, i_40, i_41, i_42, i_43, i_44, i_45, i_46]))), (a_9, .inl (cy 1, 15, .inl f_1)), (a_10, .inl (cy 1, 1050, .inl g173))] H) (hD : va_D A [(a_0, .inr (12, [.int i_0, .ref a_1, .ref a_2, .ref a_3, .ref a_4, .ref a_5, .int i_1, .int n146, .int n147, .int n148, .int n149, .long n150, .int n151, .int n152, .int i_8, .int i_9, .ref a_6, .ref a_7, .ref a_8, .ref a_9, .ref a_10, .ref a_11, .ref a_12, .ref a_13, .ref a_14, .ref a_15, .ref a_16, .ref a_17, .ref a_18, .int i_10, .int i_11, .int i_12, .int i_13, .int i_14, .int i_15, .ref a_19, .int i_16, .ref a_20])), (a_5, .inl (cy 0, 600, .inl f_0)), (a_7, .inl (cy 1, 30, .inl (mm_g [i_17, i_18, i_19, i_20, i_21, i_22, i_23, i_24, i_25, i_26, i_27, i_28, i_29, i_30, i_31, i_32, i_33, i_34, i_35, i_36, i_37, i_38, i_39, i_40, i_41, i_42, i_43, i_44, i_45, i_46]))), (a_9, .inl (cy 1, 15, .inl f_1)), (a_10, .inl (cy 1, 1050, .inl g173))]) hS
                          have rg173 : mm_ar g173 0 9 := by rw [eg173]; exact mm_ar_upd (mm_ar_wk rz37_4_72 (by decide)) (mm_wk w163 (by decide)) _
                          refine lv_aload_n hx hb dX12_ruleLine_206 rfl (lv_at hl 7 rfl) ?_
                          refine va_get (D := G) (ci := 12) (v := .ref a_10) (C := RX12) (T := TX12) (N := 38) hx hb hts (mm_i inlX12) hown hK.1 hP 0 rfl rfl 20 (by decide) (mm_h hts mm_w152) (fun _ h9 => h9) rfl dX12_ruleLine_207 ?_
                          refine lv_iload_n hx hb dX12_ruleLine_210 rfl (lv_at hl 5 rfl) ?_
                          refine lv_iload hx hb dX12_ruleLine_211 (lv_at hl 1 rfl) ?_
                          refine lv_iadd hx hb dX12_ruleLine_213 ?_
                          refine lv_topi (fun v174 ev174 => ?_)
                          have rv174 : mm_rg v174 840 1049 := mm_add ev174 rv8 w163 (by decide) (by decide)
                          have tv174 := mm_addE ev174 rv8 w163 (by decide)
                          refine lv_iload hx hb dX12_ruleLine_214 (lv_at hl 0 rfl) ?_
                          refine va_iast hx hb hK.1 hP hD hS 4 1 rfl rfl (mm_in rv174 (by decide)) dX12_ruleLine_216 ?_
                          clear hP hD hS
                          clear H locs
                          obtain ⟨g175, eg175⟩ : ∃ z : Nat → Int32, z = upd g173 v174.toNatClampNeg v133 := ⟨_, rfl⟩
                          rw [← eg175]
                          intro H locs (hP : va_P G vwCl [(a_0, .inr (12, [.int i_0, .ref a_1, .ref a_2, .ref a_3, .ref a_4, .ref a_5, .int i_1, .int n146, .int n147, .int n148, .int n149, .long n150, .int n151, .int n152, .int i_8, .int i_9, .ref a_6, .ref a_7, .ref a_8, .ref a_9, .ref a_10, .ref a_11, .ref a_12, .ref a_13, .ref a_14, .ref a_15, .ref a_16, .ref a_17, .ref a_18, .int i_10, .int i_11, .int i_12, .int i_13, .int i_14, .int i_15, .ref a_19, .int i_16, .ref a_20])), (a_5, .inl (cy 0, 600, .inl f_0)), (a_7, .inl (cy 1, 30, .inl (mm_g [i_17, i_18, i_19, i_20, i_21, i_22, i_23, i_24, i_25, i_26, i_27, i_28, i_29, i_30, i_31, i_32, i_33, i_34, i_35, i_36, i_37, i_38, i_39, i_40, i_41, i_42, i_43, i_44, i_45, i_46]))), (a_9, .inl (cy 1, 15, .inl f_1)), (a_10, .inl (cy 1, 1050, .inl g175))] H) (hD : va_D A [(a_0, .inr (12, [.int i_0, .ref a_1, .ref a_2, .ref a_3, .ref a_4, .ref a_5, .int i_1, .int n146, .int n147, .int n148, .int n149, .long n150, .int n151, .int n152, .int i_8, .int i_9, .ref a_6, .ref a_7, .ref a_8, .ref a_9, .ref a_10, .ref a_11, .ref a_12, .ref a_13, .ref a_14, .ref a_15, .ref a_16, .ref a_17, .ref a_18, .int i_10, .int i_11, .int i_12, .int i_13, .int i_14, .int i_15, .ref a_19, .int i_16, .ref a_20])), (a_5, .inl (cy 0, 600, .inl f_0)), (a_7, .inl (cy 1, 30, .inl (mm_g [i_17, i_18, i_19, i_20, i_21, i_22, i_23, i_24, i_25, i_26, i_27, i_28, i_29, i_30, i_31, i_32, i_33, i_34, i_35, i_36, i_37, i_38, i_39, i_40, i_41, i_42, i_43, i_44, i_45, i_46]))), (a_9, .inl (cy 1, 15, .inl f_1)), (a_10, .inl (cy 1, 1050, .inl g175))]) hS
                          have rg175 : mm_ar g175 0 9 := by rw [eg175]; exact mm_ar_upd (mm_ar_wk rg173 (by decide)) (mm_wk w143 (by decide)) _
                          refine lv_iload hx hb dX12_ruleLine_217 (lv_at hl 3 rfl) ?_
                          refine lv_if_eq (tgt := 233) hx hb dX12_ruleLine_219 (by decide) (fun c176 => ?_) (fun c176 => ?_)
                          · refine lv_goto (tgt := 243) hx hb dX12_ruleLine_233 (by decide) ?_
                            refine lv_aload_n hx hb dX12_ruleLine_243 rfl (lv_at hl 7 rfl) ?_
                            refine va_get (D := G) (ci := 12) (v := .ref a_9) (C := RX12) (T := TX12) (N := 38) hx hb hts (mm_i inlX12) hown hK.1 hP 0 rfl rfl 19 (by decide) (mm_h hts mm_w151) (fun _ h9 => h9) rfl dX12_ruleLine_244 ?_
                            refine lv_iload_n hx hb dX12_ruleLine_247 rfl (lv_at hl 6 rfl) ?_
                            refine lv_dup2_11 hx hb dX12_ruleLine_248 rfl rfl ?_
                            refine va_iald hx hb hK.1 hP 3 1 rfl rfl (mm_in rv3 (by decide)) dX12_ruleLine_249 ?_
                            refine lv_topi (fun v177 ev177 => ?_)
                            have rv177 : mm_rg v177 0 7 := mm_eqv ev177 (h36 _)
                            have q178 : mm_rg v177 0 6 := mm_rq_ld h45 ev177 rv177 h33 (by have := tv3; have := tv2; omega) (by decide)
                            obtain rfl : v5 = v177 := ev5.trans ev177.symm
                            refine lv_iconst (v := 1) hx hb dX12_ruleLine_250 (by decide) ?_
                            refine lv_iadd hx hb dX12_ruleLine_251 ?_
                            refine lv_topi (fun v179 ev179 => ?_)
                            have rv179 : mm_rg v179 1 7 := mm_add ev179 q6 mm_k1 (by decide) (by decide)
                            have tv179 := mm_addEc ev179 q6 mm_k1 (by decide) (k := 1) (by decide)
                            refine va_iast hx hb hK.1 hP hD hS 3 1 rfl rfl (mm_in rv3 (by decide)) dX12_ruleLine_252 ?_
                            clear hP hD hS
                            clear H locs
                            obtain ⟨g180, eg180⟩ : ∃ z : Nat → Int32, z = upd f_1 v3.toNatClampNeg v179 := ⟨_, rfl⟩
                            rw [← eg180]
                            intro H locs (hP : va_P G vwCl [(a_0, .inr (12, [.int i_0, .ref a_1, .ref a_2, .ref a_3, .ref a_4, .ref a_5, .int i_1, .int n146, .int n147, .int n148, .int n149, .long n150, .int n151, .int n152, .int i_8, .int i_9, .ref a_6, .ref a_7, .ref a_8, .ref a_9, .ref a_10, .ref a_11, .ref a_12, .ref a_13, .ref a_14, .ref a_15, .ref a_16, .ref a_17, .ref a_18, .int i_10, .int i_11, .int i_12, .int i_13, .int i_14, .int i_15, .ref a_19, .int i_16, .ref a_20])), (a_5, .inl (cy 0, 600, .inl f_0)), (a_7, .inl (cy 1, 30, .inl (mm_g [i_17, i_18, i_19, i_20, i_21, i_22, i_23, i_24, i_25, i_26, i_27, i_28, i_29, i_30, i_31, i_32, i_33, i_34, i_35, i_36, i_37, i_38, i_39, i_40, i_41, i_42, i_43, i_44, i_45, i_46]))), (a_9, .inl (cy 1, 15, .inl g180)), (a_10, .inl (cy 1, 1050, .inl g175))] H) (hD : va_D A [(a_0, .inr (12, [.int i_0, .ref a_1, .ref a_2, .ref a_3, .ref a_4, .ref a_5, .int i_1, .int n146, .int n147, .int n148, .int n149, .long n150, .int n151, .int n152, .int i_8, .int i_9, .ref a_6, .ref a_7, .ref a_8, .ref a_9, .ref a_10, .ref a_11, .ref a_12, .ref a_13, .ref a_14, .ref a_15, .ref a_16, .ref a_17, .ref a_18, .int i_10, .int i_11, .int i_12, .int i_13, .int i_14, .int i_15, .ref a_19, .int i_16, .ref a_20])), (a_5, .inl (cy 0, 600, .inl f_0)), (a_7, .inl (cy 1, 30, .inl (mm_g [i_17, i_18, i_19, i_20, i_21, i_22, i_23, i_24, i_25, i_26, i_27, i_28, i_29, i_30, i_31, i_32, i_33, i_34, i_35, i_36, i_37, i_38, i_39, i_40, i_41, i_42, i_43, i_44, i_45, i_46]))), (a_9, .inl (cy 1, 15, .inl g180)), (a_10, .inl (cy 1, 1050, .inl g175))]) hS
                            have rg180 : mm_ar g180 0 7 := by rw [eg180]; exact mm_ar_upd (mm_ar_wk h36 (by decide)) (mm_wk rv179 (by decide)) _
                            have w181 : mm_rls g180 g175 0 i_19 i_20 := (mm_rls_fr h38 (mm_fr_u (mm_fr_r _ _) eg180 rv3 (by decide)) (mm_fr_u (mm_fr_u w73 eg173 rv172 (by decide)) eg175 rv174 (by decide)) (by decide))
                            have w182 : mm_rls g180 g175 1 i_25 i_26 := (mm_rls_fr h39 (mm_fr_u (mm_fr_r _ _) eg180 rv3 (by decide)) (mm_fr_u (mm_fr_u w73 eg173 rv172 (by decide)) eg175 rv174 (by decide)) (by decide))
                            have w183 : mm_rls g180 g175 2 i_31 i_32 := (mm_rls_fr h40 (mm_fr_u (mm_fr_r _ _) eg180 rv3 (by decide)) (mm_fr_u (mm_fr_u w73 eg173 rv172 (by decide)) eg175 rv174 (by decide)) (by decide))
                            have w184 : mm_rls g180 g175 3 i_37 i_38 := (mm_rls_fr h41 (mm_fr_u (mm_fr_r _ _) eg180 rv3 (by decide)) (mm_fr_u (mm_fr_u w73 eg173 rv172 (by decide)) eg175 rv174 (by decide)) (by decide))
                            have w185 : (i_4 : Int32).toInt ≤ (n148 : Int32).toInt := (by have := h42; have := w125; have := w141; have := w161; omega)
                            have w186 : mm_rls g180 g175 4 i_43 i_44 := (mm_rls_rule h46 eg180 (by have := tv3; have := tv2; omega) ev5 tv179 (by have := tv8; have := tv7; have := tv4; omega) (mm_ag_u (mm_ag_u w74 eg173 tv172 w143 rv8 (by decide)) eg175 tv174 w163 rv8 (by decide)) (mm_pmr_sw (mm_idk_w w75 q78 (by decide)) eg173 tv172 eg175 tv174 w144 w164 (mm_nq_ne w165 q169 (by decide)) h32 rv8 w143 w163 (by decide)) h33 q6 (by decide))
                            have w187 : mm_fr f_1 g180 12 := (mm_fr_u (mm_fr_r _ _) eg180 rv3 (by decide))
                            have w188 : mm_fr f_2 g175 840 := (mm_fr_u (mm_fr_u w73 eg173 rv172 (by decide)) eg175 rv174 (by decide))
                            subst hAe
                            rw [hQ]
                            exact W.vret hx hb hr (fun t ht hW => ⟨⟨(n146, n147, n148, n149, n150, n151, n152, g180, g175), rfl, ⟨w154, w155, w156, (mm_wk q169 (by decide)), rg180, rg175, w181, w182, w183, w184, w158, w159, w160, w185, w186, w187, w188⟩, by rw [ht]; exact hP, hK.warm hW, hD⟩, hS.F ht⟩) hS.2.2 dX12_ruleLine_253
                          · have q189 := mm_neL (lo := 1) (mm_ne c176) mm_k0 mm_k0 (by decide) (by decide)
                            exact mm_no q189 (by decide)
                        · have q190 := mm_neL (lo := 1) (mm_ne c168) w157 mm_k0 (by decide) (by decide)
                          have w191 : mm_rls f_1 z37_4_72 0 i_19 i_20 := (mm_rls_fr h38 (mm_fr_r _ _) w73 (by decide))
                          have w192 : mm_rls f_1 z37_4_72 1 i_25 i_26 := (mm_rls_fr h39 (mm_fr_r _ _) w73 (by decide))
                          have w193 : mm_rls f_1 z37_4_72 2 i_31 i_32 := (mm_rls_fr h40 (mm_fr_r _ _) w73 (by decide))
                          have w194 : mm_rls f_1 z37_4_72 3 i_37 i_38 := (mm_rls_fr h41 (mm_fr_r _ _) w73 (by decide))
                          have w195 : (i_4 : Int32).toInt ≤ (n148 : Int32).toInt := (by have := h42; have := w125; have := w141; have := w161; omega)
                          have w196 : mm_rls f_1 z37_4_72 4 i_43 i_44 := (mm_rls_beg h46 (by have := tv3; have := tv2; omega) ev5 (by have := tv8; have := tv7; have := tv4; omega) w74 h33 q6 (by decide))
                          have w197 : mm_fr f_1 f_1 12 := (mm_fr_r _ _)
                          subst hAe
                          rw [hQ]
                          exact W.vret hx hb hr (fun t ht hW => ⟨⟨(n146, n147, n148, n149, n150, n151, n152, f_1, z37_4_72), rfl, ⟨w154, w155, w156, (mm_wk q190 (by decide)), h36, rz37_4_72, w191, w192, w193, w194, w158, w159, w160, w195, w196, w197, w73⟩, by rw [ht]; exact hP, hK.warm hW, hD⟩, hS.F ht⟩) hS.2.2 dX12_ruleLine_194
                      · have q198 := mm_neL (lo := 1) (mm_ne c167) mm_k0 mm_k0 (by decide) (by decide)
                        exact mm_no q198 (by decide)
                    · refine lv_istore (lv' := [(4, .int 1), (3, .int v10), (2, .int v8), (1, .int v3), (0, .ref a_0)]) hx hb dX12_ruleLine_145 hl (by decide) rfl ?_
                      clear hl
                      clear ls
                      intro ls hl
                      refine lv_aload_n hx hb dX12_ruleLine_147 rfl (lv_at hl 4 rfl) ?_
                      refine mm_finv (va_runV (As := []) (rest := []) ⟨hx, hb, hml, hown, hts⟩ (M22_X12_next l G cy H.size a_0 i_0 a_1 a_2 a_3 a_4 a_5 i_1 i_2 i_3 i_4 i_5 j_0 i_6 i_7 i_8 i_9 a_6 a_7 a_8 a_9 a_10 a_11 a_12 a_13 a_14 a_15 a_16 a_17 a_18 i_10 i_11 i_12 i_13 i_14 i_15 a_19 i_16 a_20 f_0 h0 h1 h2 h3 h5 h43) (cwV 0 hts (mm_gV mm_w451 mm_w452 mm_w453 mm_w5 mm_w454) rfl rfl rfl hd_X12_next ⟨by rw [hRf]; exact Nat.le_of_ble_eq_true rfl, by rw [hRl]; exact Nat.le_of_ble_eq_true rfl⟩) (mm_preV hK hZ hS hA hP hD [0, 1] rfl rfl 0 rfl rfl rfl) rfl rfl hl.1 rfl (lv_room (Nat.le_of_ble_eq_true rfl)) dX12_ruleLine_148 ⟨by rw [hRc]; exact Nat.le_of_ble_eq_true rfl, by rw [hRs]; exact Nat.le_of_ble_eq_true rfl⟩) hP hD hS hA (fun u : Int32 × Int32 × Int32 × Int32 × Int64 => [(a_0, .inr (12, [.int i_0, .ref a_1, .ref a_2, .ref a_3, .ref a_4, .ref a_5, .int i_1, .int u.1, .int u.2.1, .int u.2.2.1, .int u.2.2.2.1, .long u.2.2.2.2, .int i_6, .int i_7, .int i_8, .int i_9, .ref a_6, .ref a_7, .ref a_8, .ref a_9, .ref a_10, .ref a_11, .ref a_12, .ref a_13, .ref a_14, .ref a_15, .ref a_16, .ref a_17, .ref a_18, .int i_10, .int i_11, .int i_12, .int i_13, .int i_14, .int i_15, .ref a_19, .int i_16, .ref a_20])), (a_5, .inl (cy 0, 600, .inl f_0)), (a_7, .inl (cy 1, 30, .inl (mm_g [i_17, i_18, i_19, i_20, i_21, i_22, i_23, i_24, i_25, i_26, i_27, i_28, i_29, i_30, i_31, i_32, i_33, i_34, i_35, i_36, i_37, i_38, i_39, i_40, i_41, i_42, i_43, i_44, i_45, i_46]))), (a_9, .inl (cy 1, 15, .inl f_1)), (a_10, .inl (cy 1, 1050, .inl z37_4_72))]) [0, 1] [2, 3, 4] (n := 5) (fun _ => rfl) (by decide +kernel) (by decide +kernel) rfl (fun _ => rfl) (wr := [(a_7, .inl (cy 1, 30, .inl (mm_g [i_17, i_18, i_19, i_20, i_21, i_22, i_23, i_24, i_25, i_26, i_27, i_28, i_29, i_30, i_31, i_32, i_33, i_34, i_35, i_36, i_37, i_38, i_39, i_40, i_41, i_42, i_43, i_44, i_45, i_46]))), (a_9, .inl (cy 1, 15, .inl f_1)), (a_10, .inl (cy 1, 1050, .inl z37_4_72))]) rfl (fun _ => rfl) (fun _ => rfl) ?_
                      clear hP hD hS
                      clear H locs
                      intro u
                      obtain ⟨n199, n200, n201, n202, n203⟩ := u
                      intro H locs hw (hP : va_P G vwCl [(a_0, .inr (12, [.int i_0, .ref a_1, .ref a_2, .ref a_3, .ref a_4, .ref a_5, .int i_1, .int n199, .int n200, .int n201, .int n202, .long n203, .int i_6, .int i_7, .int i_8, .int i_9, .ref a_6, .ref a_7, .ref a_8, .ref a_9, .ref a_10, .ref a_11, .ref a_12, .ref a_13, .ref a_14, .ref a_15, .ref a_16, .ref a_17, .ref a_18, .int i_10, .int i_11, .int i_12, .int i_13, .int i_14, .int i_15, .ref a_19, .int i_16, .ref a_20])), (a_5, .inl (cy 0, 600, .inl f_0)), (a_7, .inl (cy 1, 30, .inl (mm_g [i_17, i_18, i_19, i_20, i_21, i_22, i_23, i_24, i_25, i_26, i_27, i_28, i_29, i_30, i_31, i_32, i_33, i_34, i_35, i_36, i_37, i_38, i_39, i_40, i_41, i_42, i_43, i_44, i_45, i_46]))), (a_9, .inl (cy 1, 15, .inl f_1)), (a_10, .inl (cy 1, 1050, .inl z37_4_72))] H) (hD : va_D A [(a_0, .inr (12, [.int i_0, .ref a_1, .ref a_2, .ref a_3, .ref a_4, .ref a_5, .int i_1, .int n199, .int n200, .int n201, .int n202, .long n203, .int i_6, .int i_7, .int i_8, .int i_9, .ref a_6, .ref a_7, .ref a_8, .ref a_9, .ref a_10, .ref a_11, .ref a_12, .ref a_13, .ref a_14, .ref a_15, .ref a_16, .ref a_17, .ref a_18, .int i_10, .int i_11, .int i_12, .int i_13, .int i_14, .int i_15, .ref a_19, .int i_16, .ref a_20])), (a_5, .inl (cy 0, 600, .inl f_0)), (a_7, .inl (cy 1, 30, .inl (mm_g [i_17, i_18, i_19, i_20, i_21, i_22, i_23, i_24, i_25, i_26, i_27, i_28, i_29, i_30, i_31, i_32, i_33, i_34, i_35, i_36, i_37, i_38, i_39, i_40, i_41, i_42, i_43, i_44, i_45, i_46]))), (a_9, .inl (cy 1, 15, .inl f_1)), (a_10, .inl (cy 1, 1050, .inl z37_4_72))]) hS
                      obtain ⟨w204, w205, w206, w207, w208, w209, w210⟩ := hw
                      replace w207 : (n201 : Int32).toInt ≤ (n199 : Int32).toInt := w207
                      replace w208 : (n199 : Int32).toInt ≤ (i_1 : Int32).toInt := w208
                      replace w209 : mm_tk n200 n201 n199 := w209
                      replace w210 : (i_2 : Int32).toInt ≤ (n201 : Int32).toInt := w210
                      refine lv_aload_n hx hb dX12_ruleLine_151 rfl (lv_at hl 4 rfl) ?_
                      refine mm_fini (va_runV (As := []) (rest := []) ⟨hx, hb, hml, hown, hts⟩ (M48_X12_wordHere l G cy H.size a_0 i_0 a_1 a_2 a_3 a_4 a_5 i_1 n199 n200 n201 n202 n203 i_6 i_7 i_8 i_9 a_6 a_7 a_8 a_9 a_10 a_11 a_12 a_13 a_14 a_15 a_16 a_17 a_18 i_10 i_11 i_12 i_13 i_14 i_15 a_19 i_16 a_20 f_0 i_17 i_18 i_19 i_20 i_21 i_22 i_23 i_24 i_25 i_26 i_27 i_28 i_29 i_30 i_31 i_32 i_33 i_34 i_35 i_36 i_37 i_38 i_39 i_40 i_41 i_42 i_43 i_44 i_45 i_46 h0 w204 w205 w206 h4 h5 h6 h7 h8 h9 h10 h11 h12 h13 h14 h15 h16 h17 h18 h19 h20 h21 h22 h23 h24 h25 h26 h27 h28 h29 h30 h31 h32 (mm_wk h33 (by decide)) h34 h35 w207 w208 w209) (cwV 0 hts (mm_gV mm_w532 mm_w533 mm_w534 mm_w5 mm_w535) rfl rfl rfl hd_X12_wordHere ⟨by rw [hRf]; exact Nat.le_of_ble_eq_true rfl, by rw [hRl]; exact Nat.le_of_ble_eq_true rfl⟩) (mm_preV hK hZ hS hA hP hD [0, 1, 2] rfl rfl 0 rfl rfl rfl) rfl rfl hl.1 rfl (lv_room (Nat.le_of_ble_eq_true rfl)) dX12_ruleLine_152 ⟨by rw [hRc]; exact Nat.le_of_ble_eq_true rfl, by rw [hRs]; exact Nat.le_of_ble_eq_true rfl⟩) hP hD hS hA (fun u : Int32 × Int32 × Int32 × Int32 × Int64 × Int32 × Int32 => [(a_0, .inr (12, [.int i_0, .ref a_1, .ref a_2, .ref a_3, .ref a_4, .ref a_5, .int i_1, .int u.1, .int u.2.1, .int u.2.2.1, .int u.2.2.2.1, .long u.2.2.2.2.1, .int u.2.2.2.2.2.1, .int u.2.2.2.2.2.2, .int i_8, .int i_9, .ref a_6, .ref a_7, .ref a_8, .ref a_9, .ref a_10, .ref a_11, .ref a_12, .ref a_13, .ref a_14, .ref a_15, .ref a_16, .ref a_17, .ref a_18, .int i_10, .int i_11, .int i_12, .int i_13, .int i_14, .int i_15, .ref a_19, .int i_16, .ref a_20])), (a_5, .inl (cy 0, 600, .inl f_0)), (a_7, .inl (cy 1, 30, .inl (mm_g [i_17, i_18, i_19, i_20, i_21, i_22, i_23, i_24, i_25, i_26, i_27, i_28, i_29, i_30, i_31, i_32, i_33, i_34, i_35, i_36, i_37, i_38, i_39, i_40, i_41, i_42, i_43, i_44, i_45, i_46]))), (a_9, .inl (cy 1, 15, .inl f_1)), (a_10, .inl (cy 1, 1050, .inl z37_4_72))]) [0, 1, 2] [3, 4] (n := 5) (fun _ => rfl) (by decide +kernel) (by decide +kernel) rfl (fun _ => rfl) (wr := [(a_9, .inl (cy 1, 15, .inl f_1)), (a_10, .inl (cy 1, 1050, .inl z37_4_72))]) rfl (fun _ => rfl) (fun _ => @rfl _ ([a_0, a_5, a_7] : List Nat)) ?_
                      clear hP hD hS
                      clear H locs
                      intro v218 u
                      obtain ⟨n211, n212, n213, n214, n215, n216, n217⟩ := u
                      intro H locs hw (hP : va_P G vwCl [(a_0, .inr (12, [.int i_0, .ref a_1, .ref a_2, .ref a_3, .ref a_4, .ref a_5, .int i_1, .int n211, .int n212, .int n213, .int n214, .long n215, .int n216, .int n217, .int i_8, .int i_9, .ref a_6, .ref a_7, .ref a_8, .ref a_9, .ref a_10, .ref a_11, .ref a_12, .ref a_13, .ref a_14, .ref a_15, .ref a_16, .ref a_17, .ref a_18, .int i_10, .int i_11, .int i_12, .int i_13, .int i_14, .int i_15, .ref a_19, .int i_16, .ref a_20])), (a_5, .inl (cy 0, 600, .inl f_0)), (a_7, .inl (cy 1, 30, .inl (mm_g [i_17, i_18, i_19, i_20, i_21, i_22, i_23, i_24, i_25, i_26, i_27, i_28, i_29, i_30, i_31, i_32, i_33, i_34, i_35, i_36, i_37, i_38, i_39, i_40, i_41, i_42, i_43, i_44, i_45, i_46]))), (a_9, .inl (cy 1, 15, .inl f_1)), (a_10, .inl (cy 1, 1050, .inl z37_4_72))] H) (hD : va_D A [(a_0, .inr (12, [.int i_0, .ref a_1, .ref a_2, .ref a_3, .ref a_4, .ref a_5, .int i_1, .int n211, .int n212, .int n213, .int n214, .long n215, .int n216, .int n217, .int i_8, .int i_9, .ref a_6, .ref a_7, .ref a_8, .ref a_9, .ref a_10, .ref a_11, .ref a_12, .ref a_13, .ref a_14, .ref a_15, .ref a_16, .ref a_17, .ref a_18, .int i_10, .int i_11, .int i_12, .int i_13, .int i_14, .int i_15, .ref a_19, .int i_16, .ref a_20])), (a_5, .inl (cy 0, 600, .inl f_0)), (a_7, .inl (cy 1, 30, .inl (mm_g [i_17, i_18, i_19, i_20, i_21, i_22, i_23, i_24, i_25, i_26, i_27, i_28, i_29, i_30, i_31, i_32, i_33, i_34, i_35, i_36, i_37, i_38, i_39, i_40, i_41, i_42, i_43, i_44, i_45, i_46]))), (a_9, .inl (cy 1, 15, .inl f_1)), (a_10, .inl (cy 1, 1050, .inl z37_4_72))]) hS
                      obtain ⟨w219, w220, w221, w222, w223, w224, w225, w226, w227, hw⟩ := hw
                      replace w223 : (n213 : Int32).toInt ≤ (n211 : Int32).toInt := w223
                      replace w224 : (n211 : Int32).toInt ≤ (i_1 : Int32).toInt := w224
                      replace w225 : mm_tk n212 n213 n211 := w225
                      replace w226 : (n201 : Int32).toInt ≤ (n213 : Int32).toInt := w226
                      replace w227 : mm_b0 i_6 n216 := w227
                      obtain ⟨w228, w229, w230⟩ := hw
                      replace w229 : (v218 : Int32).toInt ≤ (i_43 : Int32).toInt := w229
                      replace w230 : mm_nv n216 v218 n200 n202 := w230
                      refine lv_istore (lv' := [(5, .int v218), (4, .int 1), (3, .int v10), (2, .int v8), (1, .int v3), (0, .ref a_0)]) hx hb dX12_ruleLine_155 hl (by decide) rfl ?_
                      clear hl
                      clear ls
                      intro ls hl
                      refine lv_aload_n hx hb dX12_ruleLine_157 rfl (lv_at hl 5 rfl) ?_
                      refine lv_iload hx hb dX12_ruleLine_158 (lv_at hl 0 rfl) ?_
                      refine lv_iload hx hb dX12_ruleLine_160 (lv_at hl 0 rfl) ?_
                      refine mm_fini (va_runV (As := [.int v218, .int v218]) (rest := []) ⟨hx, hb, hml, hown, hts⟩ (M62_X12_otherWord l G cy H.size a_0 v218 v218 i_0 a_1 a_2 a_3 a_4 a_5 i_1 n211 n212 n213 n214 n215 n216 n217 i_8 i_9 a_6 a_7 a_8 a_9 a_10 a_11 a_12 a_13 a_14 a_15 a_16 a_17 a_18 i_10 i_11 i_12 i_13 i_14 i_15 a_19 i_16 a_20 f_0 i_17 i_18 i_19 i_20 i_21 i_22 i_23 i_24 i_25 i_26 i_27 i_28 i_29 i_30 i_31 i_32 i_33 i_34 i_35 i_36 i_37 i_38 i_39 i_40 i_41 i_42 i_43 i_44 i_45 i_46 w228 w228 h0 w219 w220 w221 w222 h5 h6 h7 h8 h9 h10 h11 h12 h13 h14 h15 h16 h17 h18 h19 h20 h21 h22 h23 h24 h25 h26 h27 h28 h29 h30 h31 h32 (mm_wk h33 (by decide)) h34 h35 w223 w224 w225) (cwV 2 hts (mm_gV mm_w536 mm_w537 mm_w538 mm_w5 mm_w539) rfl rfl rfl hd_X12_otherWord ⟨by rw [hRf]; exact Nat.le_of_ble_eq_true rfl, by rw [hRl]; exact Nat.le_of_ble_eq_true rfl⟩) (mm_preV hK hZ hS hA hP hD [0, 1, 2] rfl rfl 0 rfl rfl rfl) rfl rfl hl.1 rfl (lv_room (Nat.le_of_ble_eq_true rfl)) dX12_ruleLine_162 ⟨by rw [hRc]; exact Nat.le_of_ble_eq_true rfl, by rw [hRs]; exact Nat.le_of_ble_eq_true rfl⟩) hP hD hS hA (fun u : Int32 × Int32 × Int32 × Int32 × Int64 × Int32 × Int32 => [(a_0, .inr (12, [.int i_0, .ref a_1, .ref a_2, .ref a_3, .ref a_4, .ref a_5, .int i_1, .int u.1, .int u.2.1, .int u.2.2.1, .int u.2.2.2.1, .long u.2.2.2.2.1, .int u.2.2.2.2.2.1, .int u.2.2.2.2.2.2, .int i_8, .int i_9, .ref a_6, .ref a_7, .ref a_8, .ref a_9, .ref a_10, .ref a_11, .ref a_12, .ref a_13, .ref a_14, .ref a_15, .ref a_16, .ref a_17, .ref a_18, .int i_10, .int i_11, .int i_12, .int i_13, .int i_14, .int i_15, .ref a_19, .int i_16, .ref a_20])), (a_5, .inl (cy 0, 600, .inl f_0)), (a_7, .inl (cy 1, 30, .inl (mm_g [i_17, i_18, i_19, i_20, i_21, i_22, i_23, i_24, i_25, i_26, i_27, i_28, i_29, i_30, i_31, i_32, i_33, i_34, i_35, i_36, i_37, i_38, i_39, i_40, i_41, i_42, i_43, i_44, i_45, i_46]))), (a_9, .inl (cy 1, 15, .inl f_1)), (a_10, .inl (cy 1, 1050, .inl z37_4_72))]) [0, 1, 2] [3, 4] (n := 5) (fun _ => rfl) (by decide +kernel) (by decide +kernel) rfl (fun _ => rfl) (wr := [(a_9, .inl (cy 1, 15, .inl f_1)), (a_10, .inl (cy 1, 1050, .inl z37_4_72))]) rfl (fun _ => rfl) (fun _ => @rfl _ ([a_0, a_5, a_7] : List Nat)) ?_
                      clear hP hD hS
                      clear H locs
                      intro v238 u
                      obtain ⟨n231, n232, n233, n234, n235, n236, n237⟩ := u
                      intro H locs hw (hP : va_P G vwCl [(a_0, .inr (12, [.int i_0, .ref a_1, .ref a_2, .ref a_3, .ref a_4, .ref a_5, .int i_1, .int n231, .int n232, .int n233, .int n234, .long n235, .int n236, .int n237, .int i_8, .int i_9, .ref a_6, .ref a_7, .ref a_8, .ref a_9, .ref a_10, .ref a_11, .ref a_12, .ref a_13, .ref a_14, .ref a_15, .ref a_16, .ref a_17, .ref a_18, .int i_10, .int i_11, .int i_12, .int i_13, .int i_14, .int i_15, .ref a_19, .int i_16, .ref a_20])), (a_5, .inl (cy 0, 600, .inl f_0)), (a_7, .inl (cy 1, 30, .inl (mm_g [i_17, i_18, i_19, i_20, i_21, i_22, i_23, i_24, i_25, i_26, i_27, i_28, i_29, i_30, i_31, i_32, i_33, i_34, i_35, i_36, i_37, i_38, i_39, i_40, i_41, i_42, i_43, i_44, i_45, i_46]))), (a_9, .inl (cy 1, 15, .inl f_1)), (a_10, .inl (cy 1, 1050, .inl z37_4_72))] H) (hD : va_D A [(a_0, .inr (12, [.int i_0, .ref a_1, .ref a_2, .ref a_3, .ref a_4, .ref a_5, .int i_1, .int n231, .int n232, .int n233, .int n234, .long n235, .int n236, .int n237, .int i_8, .int i_9, .ref a_6, .ref a_7, .ref a_8, .ref a_9, .ref a_10, .ref a_11, .ref a_12, .ref a_13, .ref a_14, .ref a_15, .ref a_16, .ref a_17, .ref a_18, .int i_10, .int i_11, .int i_12, .int i_13, .int i_14, .int i_15, .ref a_19, .int i_16, .ref a_20])), (a_5, .inl (cy 0, 600, .inl f_0)), (a_7, .inl (cy 1, 30, .inl (mm_g [i_17, i_18, i_19, i_20, i_21, i_22, i_23, i_24, i_25, i_26, i_27, i_28, i_29, i_30, i_31, i_32, i_33, i_34, i_35, i_36, i_37, i_38, i_39, i_40, i_41, i_42, i_43, i_44, i_45, i_46]))), (a_9, .inl (cy 1, 15, .inl f_1)), (a_10, .inl (cy 1, 1050, .inl z37_4_72))]) hS
                      obtain ⟨w239, w240, w241, w242, w243, w244, w245, w246, w247, hw⟩ := hw
                      replace w243 : (n233 : Int32).toInt ≤ (n231 : Int32).toInt := w243
                      replace w244 : (n231 : Int32).toInt ≤ (i_1 : Int32).toInt := w244
                      replace w245 : mm_tk n232 n233 n231 := w245
                      replace w246 : (n213 : Int32).toInt ≤ (n233 : Int32).toInt := w246
                      replace w247 : mm_b0 n216 n236 := w247
                      obtain ⟨w248, w249, w250, w251⟩ := hw
                      replace w249 : (v238 : Int32).toInt ≤ (i_43 : Int32).toInt := w249
                      replace w250 : mm_nq n236 v238 v218 := w250
                      replace w251 : mm_nq n236 v238 v218 := w251
                      refine lv_istore (lv' := [(6, .int v238), (5, .int v218), (4, .int 1), (3, .int v10), (2, .int v8), (1, .int v3), (0, .ref a_0)]) hx hb dX12_ruleLine_165 hl (by decide) rfl ?_
                      clear hl
                      clear ls
                      intro ls hl
                      refine lv_iload hx hb dX12_ruleLine_167 (lv_at hl 2 rfl) ?_
                      refine lv_if_eq (tgt := 183) hx hb dX12_ruleLine_169 (by decide) (fun c252 => ?_) (fun c252 => ?_)
                      · exact mm_eqN c252.symm mm_k0 mm_k1 (by decide)
                      · refine lv_aload_n hx hb dX12_ruleLine_172 rfl (lv_at hl 6 rfl) ?_
                        refine lv_iload hx hb dX12_ruleLine_173 (lv_at hl 1 rfl) ?_
                        refine lv_iload hx hb dX12_ruleLine_175 (lv_at hl 0 rfl) ?_
                        refine mm_fini (va_runV (As := [.int v218, .int v238]) (rest := []) ⟨hx, hb, hml, hown, hts⟩ (M62_X12_otherWord l G cy H.size a_0 v218 v238 i_0 a_1 a_2 a_3 a_4 a_5 i_1 n231 n232 n233 n234 n235 n236 n237 i_8 i_9 a_6 a_7 a_8 a_9 a_10 a_11 a_12 a_13 a_14 a_15 a_16 a_17 a_18 i_10 i_11 i_12 i_13 i_14 i_15 a_19 i_16 a_20 f_0 i_17 i_18 i_19 i_20 i_21 i_22 i_23 i_24 i_25 i_26 i_27 i_28 i_29 i_30 i_31 i_32 i_33 i_34 i_35 i_36 i_37 i_38 i_39 i_40 i_41 i_42 i_43 i_44 i_45 i_46 w228 w248 h0 w239 w240 w241 w242 h5 h6 h7 h8 h9 h10 h11 h12 h13 h14 h15 h16 h17 h18 h19 h20 h21 h22 h23 h24 h25 h26 h27 h28 h29 h30 h31 h32 (mm_wk h33 (by decide)) h34 h35 w243 w244 w245) (cwV 2 hts (mm_gV mm_w536 mm_w537 mm_w538 mm_w5 mm_w539) rfl rfl rfl hd_X12_otherWord ⟨by rw [hRf]; exact Nat.le_of_ble_eq_true rfl, by rw [hRl]; exact Nat.le_of_ble_eq_true rfl⟩) (mm_preV hK hZ hS hA hP hD [0, 1, 2] rfl rfl 0 rfl rfl rfl) rfl rfl hl.1 rfl (lv_room (Nat.le_of_ble_eq_true rfl)) dX12_ruleLine_177 ⟨by rw [hRc]; exact Nat.le_of_ble_eq_true rfl, by rw [hRs]; exact Nat.le_of_ble_eq_true rfl⟩) hP hD hS hA (fun u : Int32 × Int32 × Int32 × Int32 × Int64 × Int32 × Int32 => [(a_0, .inr (12, [.int i_0, .ref a_1, .ref a_2, .ref a_3, .ref a_4, .ref a_5, .int i_1, .int u.1, .int u.2.1, .int u.2.2.1, .int u.2.2.2.1, .long u.2.2.2.2.1, .int u.2.2.2.2.2.1, .int u.2.2.2.2.2.2, .int i_8, .int i_9, .ref a_6, .ref a_7, .ref a_8, .ref a_9, .ref a_10, .ref a_11, .ref a_12, .ref a_13, .ref a_14, .ref a_15, .ref a_16, .ref a_17, .ref a_18, .int i_10, .int i_11, .int i_12, .int i_13, .int i_14, .int i_15, .ref a_19, .int i_16, .ref a_20])), (a_5, .inl (cy 0, 600, .inl f_0)), (a_7, .inl (cy 1, 30, .inl (mm_g [i_17, i_18, i_19, i_20, i_21, i_22, i_23, i_24, i_25, i_26, i_27, i_28, i_29, i_30, i_31, i_32, i_33, i_34, i_35, i_36, i_37, i_38, i_39, i_40, i_41, i_42, i_43, i_44, i_45, i_46]))), (a_9, .inl (cy 1, 15, .inl f_1)), (a_10, .inl (cy 1, 1050, .inl z37_4_72))]) [0, 1, 2] [3, 4] (n := 5) (fun _ => rfl) (by decide +kernel) (by decide +kernel) rfl (fun _ => rfl) (wr := [(a_9, .inl (cy 1, 15, .inl f_1)), (a_10, .inl (cy 1, 1050, .inl z37_4_72))]) rfl (fun _ => rfl) (fun _ => @rfl _ ([a_0, a_5, a_7] : List Nat)) ?_
                        clear hP hD hS
                        clear H locs
                        intro v260 u
                        obtain ⟨n253, n254, n255, n256, n257, n258, n259⟩ := u
                        intro H locs hw (hP : va_P G vwCl [(a_0, .inr (12, [.int i_0, .ref a_1, .ref a_2, .ref a_3, .ref a_4, .ref a_5, .int i_1, .int n253, .int n254, .int n255, .int n256, .long n257, .int n258, .int n259, .int i_8, .int i_9, .ref a_6, .ref a_7, .ref a_8, .ref a_9, .ref a_10, .ref a_11, .ref a_12, .ref a_13, .ref a_14, .ref a_15, .ref a_16, .ref a_17, .ref a_18, .int i_10, .int i_11, .int i_12, .int i_13, .int i_14, .int i_15, .ref a_19, .int i_16, .ref a_20])), (a_5, .inl (cy 0, 600, .inl f_0)), (a_7, .inl (cy 1, 30, .inl (mm_g [i_17, i_18, i_19, i_20, i_21, i_22, i_23, i_24, i_25, i_26, i_27, i_28, i_29, i_30, i_31, i_32, i_33, i_34, i_35, i_36, i_37, i_38, i_39, i_40, i_41, i_42, i_43, i_44, i_45, i_46]))), (a_9, .inl (cy 1, 15, .inl f_1)), (a_10, .inl (cy 1, 1050, .inl z37_4_72))] H) (hD : va_D A [(a_0, .inr (12, [.int i_0, .ref a_1, .ref a_2, .ref a_3, .ref a_4, .ref a_5, .int i_1, .int n253, .int n254, .int n255, .int n256, .long n257, .int n258, .int n259, .int i_8, .int i_9, .ref a_6, .ref a_7, .ref a_8, .ref a_9, .ref a_10, .ref a_11, .ref a_12, .ref a_13, .ref a_14, .ref a_15, .ref a_16, .ref a_17, .ref a_18, .int i_10, .int i_11, .int i_12, .int i_13, .int i_14, .int i_15, .ref a_19, .int i_16, .ref a_20])), (a_5, .inl (cy 0, 600, .inl f_0)), (a_7, .inl (cy 1, 30, .inl (mm_g [i_17, i_18, i_19, i_20, i_21, i_22, i_23, i_24, i_25, i_26, i_27, i_28, i_29, i_30, i_31, i_32, i_33, i_34, i_35, i_36, i_37, i_38, i_39, i_40, i_41, i_42, i_43, i_44, i_45, i_46]))), (a_9, .inl (cy 1, 15, .inl f_1)), (a_10, .inl (cy 1, 1050, .inl z37_4_72))]) hS
                        obtain ⟨w261, w262, w263, w264, w265, w266, w267, w268, w269, hw⟩ := hw
                        replace w265 : (n255 : Int32).toInt ≤ (n253 : Int32).toInt := w265
                        replace w266 : (n253 : Int32).toInt ≤ (i_1 : Int32).toInt := w266
                        replace w267 : mm_tk n254 n255 n253 := w267
                        replace w268 : (n233 : Int32).toInt ≤ (n255 : Int32).toInt := w268
                        replace w269 : mm_b0 n236 n258 := w269
                        obtain ⟨w270, w271, w272, w273⟩ := hw
                        replace w271 : (v260 : Int32).toInt ≤ (i_43 : Int32).toInt := w271
                        replace w272 : mm_nq n258 v260 v218 := w272
                        replace w273 : mm_nq n258 v260 v238 := w273
                        refine lv_goto (tgt := 185) hx hb dX12_ruleLine_180 (by decide) ?_
                        refine lv_istore (lv' := [(7, .int v260), (6, .int v238), (5, .int v218), (4, .int 1), (3, .int v10), (2, .int v8), (1, .int v3), (0, .ref a_0)]) hx hb dX12_ruleLine_185 hl (by decide) rfl ?_
                        clear hl
                        clear ls
                        intro ls hl
                        refine lv_aload_n hx hb dX12_ruleLine_187 rfl (lv_at hl 7 rfl) ?_
                        refine va_get (D := G) (ci := 12) (v := .int n258) (C := RX12) (T := TX12) (N := 38) hx hb hts (mm_i inlX12) hown hK.1 hP 0 rfl rfl 12 (by decide) (mm_h hts mm_w436) (fun _ h9 => h9) rfl dX12_ruleLine_188 ?_
                        refine lv_if_eq (tgt := 195) hx hb dX12_ruleLine_191 (by decide) (fun c274 => ?_) (fun c274 => ?_)
                        · have q275 := mm_eqI (lo := 0) (hi := 0) c274 w264 mm_k0 (by decide)
                          have q276 : mm_rg n236 0 0 := mm_b0_d w269 q275 (by decide)
                          have q277 : mm_rg n216 0 0 := mm_b0_d w247 q276 (by decide)
                          have q278 : mm_rg i_6 0 0 := mm_b0_d w227 q277 (by decide)
                          refine lv_aload_n hx hb dX12_ruleLine_195 rfl (lv_at hl 7 rfl) ?_
                          refine va_get (D := G) (ci := 12) (v := .ref a_10) (C := RX12) (T := TX12) (N := 38) hx hb hts (mm_i inlX12) hown hK.1 hP 0 rfl rfl 20 (by decide) (mm_h hts mm_w152) (fun _ h9 => h9) rfl dX12_ruleLine_196 ?_
                          refine lv_iload_n hx hb dX12_ruleLine_199 rfl (lv_at hl 5 rfl) ?_
                          refine lv_iload hx hb dX12_ruleLine_200 (lv_at hl 2 rfl) ?_
                          refine lv_iadd hx hb dX12_ruleLine_202 ?_
                          refine lv_topi (fun v279 ev279 => ?_)
                          have rv279 : mm_rg v279 840 1049 := mm_add ev279 rv8 w228 (by decide) (by decide)
                          have tv279 := mm_addE ev279 rv8 w228 (by decide)
                          refine lv_iload hx hb dX12_ruleLine_203 (lv_at hl 1 rfl) ?_
                          refine va_iast hx hb hK.1 hP hD hS 4 1 rfl rfl (mm_in rv279 (by decide)) dX12_ruleLine_205 ?_
                          clear hP hD hS
                          clear H locs
                          obtain ⟨g280, eg280⟩ : ∃ z : Nat → Int32, z = upd z37_4_72 v279.toNatClampNeg v238 := ⟨_, rfl⟩
                          rw [← eg280]
                          intro H locs (hP : va_P G vwCl [(a_0, .inr (12, [.int i_0, .ref a_1, .ref a_2, .ref a_3, .ref a_4, .ref a_5, .int i_1, .int n253, .int n254, .int n255, .int n256, .long n257, .int n258, .int n259, .int i_8, .int i_9, .ref a_6, .ref a_7, .ref a_8, .ref a_9, .ref a_10, .ref a_11, .ref a_12, .ref a_13, .ref a_14, .ref a_15, .ref a_16, .ref a_17, .ref a_18, .int i_10, .int i_11, .int i_12, .int i_13, .int i_14, .int i_15, .ref a_19, .int i_16, .ref a_20])), (a_5, .inl (cy 0, 600, .inl f_0)), (a_7, .inl (cy 1, 30, .inl (mm_g [i_17, i_18, i_19, i_20, i_21, i_22, i_23, i_24, i_25, i_26, i_27, i_28, i_29, i_30, i_31, i_32, i_33, i_34, i_35, i_36, i_37, i_38, i_39, i_40, i_41, i_42, i_43, i_44, i_45, i_46]))), (a_9, .inl (cy 1, 15, .inl f_1)), (a_10, .inl (cy 1, 1050, .inl g280))] H) (hD : va_D A [(a_0, .inr (12, [.int i_0, .ref a_1, .ref a_2, .ref a_3, .ref a_4, .ref a_5, .int i_1, .int n253, .int n254, .int n255, .int n256, .long n257, .int n258, .int n259, .int i_8, .int i_9, .ref a_6, .ref a_7, .ref a_8, .ref a_9, .ref a_10, .ref a_11, .ref a_12, .ref a_13, .ref a_14, .ref a_15, .ref a_16, .ref a_17, .ref a_18, .int i_10, .int i_11, .int i_12, .int i_13, .int i_14, .int i_15, .ref a_19, .int i_16, .ref a_20])), (a_5, .inl (cy 0, 600, .inl f_0)), (a_7, .inl (cy 1, 30, .inl (mm_g [i_17, i_18, i_19, i_20, i_21, i_22, i_23, i_24, i_25, i_26, i_27, i_28, i_29, i_30, i_31, i_32, i_33, i_34, i_35, i_36, i_37, i_38, i_39, i_40, i_41, i_42, i_43, i_44, i_45, i_46]))), (a_9, .inl (cy 1, 15, .inl f_1)), (a_10, .inl (cy 1, 1050, .inl g280))]) hS
                          have rg280 : mm_ar g280 0 9 := by rw [eg280]; exact mm_ar_upd (mm_ar_wk rz37_4_72 (by decide)) (mm_wk w248 (by decide)) _
                          refine lv_aload_n hx hb dX12_ruleLine_206 rfl (lv_at hl 7 rfl) ?_
                          refine va_get (D := G) (ci := 12) (v := .ref a_10) (C := RX12) (T := TX12) (N := 38) hx hb hts (mm_i inlX12) hown hK.1 hP 0 rfl rfl 20 (by decide) (mm_h hts mm_w152) (fun _ h9 => h9) rfl dX12_ruleLine_207 ?_
                          refine lv_iload_n hx hb dX12_ruleLine_210 rfl (lv_at hl 5 rfl) ?_
                          refine lv_iload hx hb dX12_ruleLine_211 (lv_at hl 1 rfl) ?_
                          refine lv_iadd hx hb dX12_ruleLine_213 ?_
                          refine lv_topi (fun v281 ev281 => ?_)
                          have rv281 : mm_rg v281 840 1049 := mm_add ev281 rv8 w248 (by decide) (by decide)
                          have tv281 := mm_addE ev281 rv8 w248 (by decide)
                          refine lv_iload hx hb dX12_ruleLine_214 (lv_at hl 0 rfl) ?_
                          refine va_iast hx hb hK.1 hP hD hS 4 1 rfl rfl (mm_in rv281 (by decide)) dX12_ruleLine_216 ?_
                          clear hP hD hS
                          clear H locs
                          obtain ⟨g282, eg282⟩ : ∃ z : Nat → Int32, z = upd g280 v281.toNatClampNeg v260 := ⟨_, rfl⟩
                          rw [← eg282]
                          intro H locs (hP : va_P G vwCl [(a_0, .inr (12, [.int i_0, .ref a_1, .ref a_2, .ref a_3, .ref a_4, .ref a_5, .int i_1, .int n253, .int n254, .int n255, .int n256, .long n257, .int n258, .int n259, .int i_8, .int i_9, .ref a_6, .ref a_7, .ref a_8, .ref a_9, .ref a_10, .ref a_11, .ref a_12, .ref a_13, .ref a_14, .ref a_15, .ref a_16, .ref a_17, .ref a_18, .int i_10, .int i_11, .int i_12, .int i_13, .int i_14, .int i_15, .ref a_19, .int i_16, .ref a_20])), (a_5, .inl (cy 0, 600, .inl f_0)), (a_7, .inl (cy 1, 30, .inl (mm_g [i_17, i_18, i_19, i_20, i_21, i_22, i_23, i_24, i_25, i_26, i_27, i_28, i_29, i_30, i_31, i_32, i_33, i_34, i_35, i_36, i_37, i_38, i_39, i_40, i_41, i_42, i_43, i_44, i_45, i_46]))), (a_9, .inl (cy 1, 15, .inl f_1)), (a_10, .inl (cy 1, 1050, .inl g282))] H) (hD : va_D A [(a_0, .inr (12, [.int i_0, .ref a_1, .ref a_2, .ref a_3, .ref a_4, .ref a_5, .int i_1, .int n253, .int n254, .int n255, .int n256, .long n257, .int n258, .int n259, .int i_8, .int i_9, .ref a_6, .ref a_7, .ref a_8, .ref a_9, .ref a_10, .ref a_11, .ref a_12, .ref a_13, .ref a_14, .ref a_15, .ref a_16, .ref a_17, .ref a_18, .int i_10, .int i_11, .int i_12, .int i_13, .int i_14, .int i_15, .ref a_19, .int i_16, .ref a_20])), (a_5, .inl (cy 0, 600, .inl f_0)), (a_7, .inl (cy 1, 30, .inl (mm_g [i_17, i_18, i_19, i_20, i_21, i_22, i_23, i_24, i_25, i_26, i_27, i_28, i_29, i_30, i_31, i_32, i_33, i_34, i_35, i_36, i_37, i_38, i_39, i_40, i_41, i_42, i_43, i_44, i_45, i_46]))), (a_9, .inl (cy 1, 15, .inl f_1)), (a_10, .inl (cy 1, 1050, .inl g282))]) hS
                          have rg282 : mm_ar g282 0 9 := by rw [eg282]; exact mm_ar_upd (mm_ar_wk rg280 (by decide)) (mm_wk w270 (by decide)) _
                          refine lv_iload hx hb dX12_ruleLine_217 (lv_at hl 3 rfl) ?_
                          refine lv_if_eq (tgt := 233) hx hb dX12_ruleLine_219 (by decide) (fun c283 => ?_) (fun c283 => ?_)
                          · exact mm_eqN c283.symm mm_k0 mm_k1 (by decide)
                          · refine lv_aload_n hx hb dX12_ruleLine_222 rfl (lv_at hl 7 rfl) ?_
                            refine va_get (D := G) (ci := 12) (v := .ref a_10) (C := RX12) (T := TX12) (N := 38) hx hb hts (mm_i inlX12) hown hK.1 hP 0 rfl rfl 20 (by decide) (mm_h hts mm_w152) (fun _ h9 => h9) rfl dX12_ruleLine_223 ?_
                            refine lv_iload_n hx hb dX12_ruleLine_226 rfl (lv_at hl 5 rfl) ?_
                            refine lv_iload hx hb dX12_ruleLine_227 (lv_at hl 0 rfl) ?_
                            refine lv_iadd hx hb dX12_ruleLine_229 ?_
                            refine lv_topi (fun v284 ev284 => ?_)
                            have rv284 : mm_rg v284 840 1049 := mm_add ev284 rv8 w270 (by decide) (by decide)
                            have tv284 := mm_addE ev284 rv8 w270 (by decide)
                            refine lv_iload hx hb dX12_ruleLine_230 (lv_at hl 2 rfl) ?_
                            refine va_iast hx hb hK.1 hP hD hS 4 1 rfl rfl (mm_in rv284 (by decide)) dX12_ruleLine_232 ?_
                            clear hP hD hS
                            clear H locs
                            obtain ⟨g285, eg285⟩ : ∃ z : Nat → Int32, z = upd g282 v284.toNatClampNeg v218 := ⟨_, rfl⟩
                            rw [← eg285]
                            intro H locs (hP : va_P G vwCl [(a_0, .inr (12, [.int i_0, .ref a_1, .ref a_2, .ref a_3, .ref a_4, .ref a_5, .int i_1, .int n253, .int n254, .int n255, .int n256, .long n257, .int n258, .int n259, .int i_8, .int i_9, .ref a_6, .ref a_7, .ref a_8, .ref a_9, .ref a_10, .ref a_11, .ref a_12, .ref a_13, .ref a_14, .ref a_15, .ref a_16, .ref a_17, .ref a_18, .int i_10, .int i_11, .int i_12, .int i_13, .int i_14, .int i_15, .ref a_19, .int i_16, .ref a_20])), (a_5, .inl (cy 0, 600, .inl f_0)), (a_7, .inl (cy 1, 30, .inl (mm_g [i_17, i_18, i_19, i_20, i_21, i_22, i_23, i_24, i_25, i_26, i_27, i_28, i_29, i_30, i_31, i_32, i_33, i_34, i_35, i_36, i_37, i_38, i_39, i_40, i_41, i_42, i_43, i_44, i_45, i_46]))), (a_9, .inl (cy 1, 15, .inl f_1)), (a_10, .inl (cy 1, 1050, .inl g285))] H) (hD : va_D A [(a_0, .inr (12, [.int i_0, .ref a_1, .ref a_2, .ref a_3, .ref a_4, .ref a_5, .int i_1, .int n253, .int n254, .int n255, .int n256, .long n257, .int n258, .int n259, .int i_8, .int i_9, .ref a_6, .ref a_7, .ref a_8, .ref a_9, .ref a_10, .ref a_11, .ref a_12, .ref a_13, .ref a_14, .ref a_15, .ref a_16, .ref a_17, .ref a_18, .int i_10, .int i_11, .int i_12, .int i_13, .int i_14, .int i_15, .ref a_19, .int i_16, .ref a_20])), (a_5, .inl (cy 0, 600, .inl f_0)), (a_7, .inl (cy 1, 30, .inl (mm_g [i_17, i_18, i_19, i_20, i_21, i_22, i_23, i_24, i_25, i_26, i_27, i_28, i_29, i_30, i_31, i_32, i_33, i_34, i_35, i_36, i_37, i_38, i_39, i_40, i_41, i_42, i_43, i_44, i_45, i_46]))), (a_9, .inl (cy 1, 15, .inl f_1)), (a_10, .inl (cy 1, 1050, .inl g285))]) hS
                            have rg285 : mm_ar g285 0 9 := by rw [eg285]; exact mm_ar_upd (mm_ar_wk rg282 (by decide)) (mm_wk w228 (by decide)) _
                            refine lv_goto (tgt := 243) hx hb dX12_ruleLine_233 (by decide) ?_
                            refine lv_aload_n hx hb dX12_ruleLine_243 rfl (lv_at hl 7 rfl) ?_
                            refine va_get (D := G) (ci := 12) (v := .ref a_9) (C := RX12) (T := TX12) (N := 38) hx hb hts (mm_i inlX12) hown hK.1 hP 0 rfl rfl 19 (by decide) (mm_h hts mm_w151) (fun _ h9 => h9) rfl dX12_ruleLine_244 ?_
                            refine lv_iload_n hx hb dX12_ruleLine_247 rfl (lv_at hl 6 rfl) ?_
                            refine lv_dup2_11 hx hb dX12_ruleLine_248 rfl rfl ?_
                            refine va_iald hx hb hK.1 hP 3 1 rfl rfl (mm_in rv3 (by decide)) dX12_ruleLine_249 ?_
                            refine lv_topi (fun v286 ev286 => ?_)
                            have rv286 : mm_rg v286 0 7 := mm_eqv ev286 (h36 _)
                            have q287 : mm_rg v286 0 6 := mm_rq_ld h45 ev286 rv286 h33 (by have := tv3; have := tv2; omega) (by decide)
                            obtain rfl : v5 = v286 := ev5.trans ev286.symm
                            refine lv_iconst (v := 1) hx hb dX12_ruleLine_250 (by decide) ?_
                            refine lv_iadd hx hb dX12_ruleLine_251 ?_
                            refine lv_topi (fun v288 ev288 => ?_)
                            have rv288 : mm_rg v288 1 7 := mm_add ev288 q6 mm_k1 (by decide) (by decide)
                            have tv288 := mm_addEc ev288 q6 mm_k1 (by decide) (k := 1) (by decide)
                            refine va_iast hx hb hK.1 hP hD hS 3 1 rfl rfl (mm_in rv3 (by decide)) dX12_ruleLine_252 ?_
                            clear hP hD hS
                            clear H locs
                            obtain ⟨g289, eg289⟩ : ∃ z : Nat → Int32, z = upd f_1 v3.toNatClampNeg v288 := ⟨_, rfl⟩
                            rw [← eg289]
                            intro H locs (hP : va_P G vwCl [(a_0, .inr (12, [.int i_0, .ref a_1, .ref a_2, .ref a_3, .ref a_4, .ref a_5, .int i_1, .int n253, .int n254, .int n255, .int n256, .long n257, .int n258, .int n259, .int i_8, .int i_9, .ref a_6, .ref a_7, .ref a_8, .ref a_9, .ref a_10, .ref a_11, .ref a_12, .ref a_13, .ref a_14, .ref a_15, .ref a_16, .ref a_17, .ref a_18, .int i_10, .int i_11, .int i_12, .int i_13, .int i_14, .int i_15, .ref a_19, .int i_16, .ref a_20])), (a_5, .inl (cy 0, 600, .inl f_0)), (a_7, .inl (cy 1, 30, .inl (mm_g [i_17, i_18, i_19, i_20, i_21, i_22, i_23, i_24, i_25, i_26, i_27, i_28, i_29, i_30, i_31, i_32, i_33, i_34, i_35, i_36, i_37, i_38, i_39, i_40, i_41, i_42, i_43, i_44, i_45, i_46]))), (a_9, .inl (cy 1, 15, .inl g289)), (a_10, .inl (cy 1, 1050, .inl g285))] H) (hD : va_D A [(a_0, .inr (12, [.int i_0, .ref a_1, .ref a_2, .ref a_3, .ref a_4, .ref a_5, .int i_1, .int n253, .int n254, .int n255, .int n256, .long n257, .int n258, .int n259, .int i_8, .int i_9, .ref a_6, .ref a_7, .ref a_8, .ref a_9, .ref a_10, .ref a_11, .ref a_12, .ref a_13, .ref a_14, .ref a_15, .ref a_16, .ref a_17, .ref a_18, .int i_10, .int i_11, .int i_12, .int i_13, .int i_14, .int i_15, .ref a_19, .int i_16, .ref a_20])), (a_5, .inl (cy 0, 600, .inl f_0)), (a_7, .inl (cy 1, 30, .inl (mm_g [i_17, i_18, i_19, i_20, i_21, i_22, i_23, i_24, i_25, i_26, i_27, i_28, i_29, i_30, i_31, i_32, i_33, i_34, i_35, i_36, i_37, i_38, i_39, i_40, i_41, i_42, i_43, i_44, i_45, i_46]))), (a_9, .inl (cy 1, 15, .inl g289)), (a_10, .inl (cy 1, 1050, .inl g285))]) hS
                            have rg289 : mm_ar g289 0 7 := by rw [eg289]; exact mm_ar_upd (mm_ar_wk h36 (by decide)) (mm_wk rv288 (by decide)) _
                            have w290 : mm_rls g289 g285 0 i_19 i_20 := (mm_rls_fr h38 (mm_fr_u (mm_fr_r _ _) eg289 rv3 (by decide)) (mm_fr_u (mm_fr_u (mm_fr_u w73 eg280 rv279 (by decide)) eg282 rv281 (by decide)) eg285 rv284 (by decide)) (by decide))
                            have w291 : mm_rls g289 g285 1 i_25 i_26 := (mm_rls_fr h39 (mm_fr_u (mm_fr_r _ _) eg289 rv3 (by decide)) (mm_fr_u (mm_fr_u (mm_fr_u w73 eg280 rv279 (by decide)) eg282 rv281 (by decide)) eg285 rv284 (by decide)) (by decide))
                            have w292 : mm_rls g289 g285 2 i_31 i_32 := (mm_rls_fr h40 (mm_fr_u (mm_fr_r _ _) eg289 rv3 (by decide)) (mm_fr_u (mm_fr_u (mm_fr_u w73 eg280 rv279 (by decide)) eg282 rv281 (by decide)) eg285 rv284 (by decide)) (by decide))
                            have w293 : mm_rls g289 g285 3 i_37 i_38 := (mm_rls_fr h41 (mm_fr_u (mm_fr_r _ _) eg289 rv3 (by decide)) (mm_fr_u (mm_fr_u (mm_fr_u w73 eg280 rv279 (by decide)) eg282 rv281 (by decide)) eg285 rv284 (by decide)) (by decide))
                            have w294 : (i_4 : Int32).toInt ≤ (n255 : Int32).toInt := (by have := h42; have := w210; have := w226; have := w246; have := w268; omega)
                            have w295 : mm_rls g289 g285 4 i_43 i_44 := (mm_rls_rule h46 eg289 (by have := tv3; have := tv2; omega) ev5 tv288 (by have := tv8; have := tv7; have := tv4; omega) (mm_ag_u (mm_ag_u (mm_ag_u w74 eg280 tv279 w228 rv8 (by decide)) eg282 tv281 w248 rv8 (by decide)) eg285 tv284 w270 rv8 (by decide)) (mm_pmr_tn (mm_idk_w w75 q78 (by decide)) eg280 tv279 eg282 tv281 eg285 tv284 w229 w249 w271 (mm_nq_ne w250 q276 (by decide)) (mm_nq_ne w272 q275 (by decide)) (mm_nq_ne w273 q275 (by decide)) h32 rv8 w228 w248 w270 (by decide)) h33 q6 (by decide))
                            have w296 : mm_fr f_1 g289 12 := (mm_fr_u (mm_fr_r _ _) eg289 rv3 (by decide))
                            have w297 : mm_fr f_2 g285 840 := (mm_fr_u (mm_fr_u (mm_fr_u w73 eg280 rv279 (by decide)) eg282 rv281 (by decide)) eg285 rv284 (by decide))
                            subst hAe
                            rw [hQ]
                            exact W.vret hx hb hr (fun t ht hW => ⟨⟨(n253, n254, n255, n256, n257, n258, n259, g289, g285), rfl, ⟨w261, w262, w263, (mm_wk q275 (by decide)), rg289, rg285, w290, w291, w292, w293, w265, w266, w267, w294, w295, w296, w297⟩, by rw [ht]; exact hP, hK.warm hW, hD⟩, hS.F ht⟩) hS.2.2 dX12_ruleLine_253
                        · have q298 := mm_neL (lo := 1) (mm_ne c274) w264 mm_k0 (by decide) (by decide)
                          have w299 : mm_rls f_1 z37_4_72 0 i_19 i_20 := (mm_rls_fr h38 (mm_fr_r _ _) w73 (by decide))
                          have w300 : mm_rls f_1 z37_4_72 1 i_25 i_26 := (mm_rls_fr h39 (mm_fr_r _ _) w73 (by decide))
                          have w301 : mm_rls f_1 z37_4_72 2 i_31 i_32 := (mm_rls_fr h40 (mm_fr_r _ _) w73 (by decide))
                          have w302 : mm_rls f_1 z37_4_72 3 i_37 i_38 := (mm_rls_fr h41 (mm_fr_r _ _) w73 (by decide))
                          have w303 : (i_4 : Int32).toInt ≤ (n255 : Int32).toInt := (by have := h42; have := w210; have := w226; have := w246; have := w268; omega)
                          have w304 : mm_rls f_1 z37_4_72 4 i_43 i_44 := (mm_rls_beg h46 (by have := tv3; have := tv2; omega) ev5 (by have := tv8; have := tv7; have := tv4; omega) w74 h33 q6 (by decide))
                          have w305 : mm_fr f_1 f_1 12 := (mm_fr_r _ _)
                          subst hAe
                          rw [hQ]
                          exact W.vret hx hb hr (fun t ht hW => ⟨⟨(n253, n254, n255, n256, n257, n258, n259, f_1, z37_4_72), rfl, ⟨w261, w262, w263, (mm_wk q298 (by decide)), h36, rz37_4_72, w299, w300, w301, w302, w265, w266, w267, w303, w304, w305, w73⟩, by rw [ht]; exact hP, hK.warm hW, hD⟩, hS.F ht⟩) hS.2.2 dX12_ruleLine_194
            · refine lv_if_ne (tgt := 138) hx hb dX12_ruleLine_125 (by decide) (fun c306 => ?_) (fun c306 => ?_)
              · refine lv_aload_n hx hb dX12_ruleLine_138 rfl (lv_at hl 4 rfl) ?_
                refine lv_ldc2 (v := 409469) hx hb hown (mm_h hts mm_w530) dX12_ruleLine_139 ?_
                refine mm_finir (va_runV (As := [.long 409469]) (rest := []) ⟨hx, hb, hml, hown, hts⟩ (M25_X12_is l G cy H.size a_0 409469 i_0 a_1 a_2 a_3 a_4 a_5 i_1 i_2 i_3 i_4 i_5 j_0 i_6 i_7 i_8 i_9 a_6 a_7 a_8 a_9 a_10 a_11 a_12 a_13 a_14 a_15 a_16 a_17 a_18 i_10 i_11 i_12 i_13 i_14 i_15 a_19 i_16 a_20 h2 h4) (cwV 1 hts (mm_gV mm_w479 mm_w480 mm_w481 mm_w5 mm_w482) rfl rfl rfl hd_X12_is ⟨by rw [hRf]; exact Nat.le_of_ble_eq_true rfl, by rw [hRl]; exact Nat.le_of_ble_eq_true rfl⟩) (mm_preV hK hZ hS hA hP hD [0] rfl rfl 0 rfl rfl rfl) rfl rfl hl.1 rfl (lv_room (Nat.le_of_ble_eq_true rfl)) dX12_ruleLine_142 ⟨by rw [hRc]; exact Nat.le_of_ble_eq_true rfl, by rw [hRs]; exact Nat.le_of_ble_eq_true rfl⟩) hP hD hS hA [0] rfl (fun _ => rfl) ?_
                clear hP hD hS
                clear H locs
                intro v307 _u H locs hw hP hD hS
                rcases hw with rfl | rfl
                · refine lv_istore (lv' := [(4, .int 0), (3, .int v10), (2, .int v8), (1, .int v3), (0, .ref a_0)]) hx hb dX12_ruleLine_145 hl (by decide) rfl ?_
                  clear hl
                  clear ls
                  intro ls hl
                  refine lv_aload_n hx hb dX12_ruleLine_147 rfl (lv_at hl 4 rfl) ?_
                  refine mm_finv (va_runV (As := []) (rest := []) ⟨hx, hb, hml, hown, hts⟩ (M22_X12_next l G cy H.size a_0 i_0 a_1 a_2 a_3 a_4 a_5 i_1 i_2 i_3 i_4 i_5 j_0 i_6 i_7 i_8 i_9 a_6 a_7 a_8 a_9 a_10 a_11 a_12 a_13 a_14 a_15 a_16 a_17 a_18 i_10 i_11 i_12 i_13 i_14 i_15 a_19 i_16 a_20 f_0 h0 h1 h2 h3 h5 h43) (cwV 0 hts (mm_gV mm_w451 mm_w452 mm_w453 mm_w5 mm_w454) rfl rfl rfl hd_X12_next ⟨by rw [hRf]; exact Nat.le_of_ble_eq_true rfl, by rw [hRl]; exact Nat.le_of_ble_eq_true rfl⟩) (mm_preV hK hZ hS hA hP hD [0, 1] rfl rfl 0 rfl rfl rfl) rfl rfl hl.1 rfl (lv_room (Nat.le_of_ble_eq_true rfl)) dX12_ruleLine_148 ⟨by rw [hRc]; exact Nat.le_of_ble_eq_true rfl, by rw [hRs]; exact Nat.le_of_ble_eq_true rfl⟩) hP hD hS hA (fun u : Int32 × Int32 × Int32 × Int32 × Int64 => [(a_0, .inr (12, [.int i_0, .ref a_1, .ref a_2, .ref a_3, .ref a_4, .ref a_5, .int i_1, .int u.1, .int u.2.1, .int u.2.2.1, .int u.2.2.2.1, .long u.2.2.2.2, .int i_6, .int i_7, .int i_8, .int i_9, .ref a_6, .ref a_7, .ref a_8, .ref a_9, .ref a_10, .ref a_11, .ref a_12, .ref a_13, .ref a_14, .ref a_15, .ref a_16, .ref a_17, .ref a_18, .int i_10, .int i_11, .int i_12, .int i_13, .int i_14, .int i_15, .ref a_19, .int i_16, .ref a_20])), (a_5, .inl (cy 0, 600, .inl f_0)), (a_7, .inl (cy 1, 30, .inl (mm_g [i_17, i_18, i_19, i_20, i_21, i_22, i_23, i_24, i_25, i_26, i_27, i_28, i_29, i_30, i_31, i_32, i_33, i_34, i_35, i_36, i_37, i_38, i_39, i_40, i_41, i_42, i_43, i_44, i_45, i_46]))), (a_9, .inl (cy 1, 15, .inl f_1)), (a_10, .inl (cy 1, 1050, .inl z37_4_72))]) [0, 1] [2, 3, 4] (n := 5) (fun _ => rfl) (by decide +kernel) (by decide +kernel) rfl (fun _ => rfl) (wr := [(a_7, .inl (cy 1, 30, .inl (mm_g [i_17, i_18, i_19, i_20, i_21, i_22, i_23, i_24, i_25, i_26, i_27, i_28, i_29, i_30, i_31, i_32, i_33, i_34, i_35, i_36, i_37, i_38, i_39, i_40, i_41, i_42, i_43, i_44, i_45, i_46]))), (a_9, .inl (cy 1, 15, .inl f_1)), (a_10, .inl (cy 1, 1050, .inl z37_4_72))]) rfl (fun _ => rfl) (fun _ => rfl) ?_
                  clear hP hD hS
                  clear H locs
                  intro u
                  obtain ⟨n308, n309, n310, n311, n312⟩ := u
                  intro H locs hw (hP : va_P G vwCl [(a_0, .inr (12, [.int i_0, .ref a_1, .ref a_2, .ref a_3, .ref a_4, .ref a_5, .int i_1, .int n308, .int n309, .int n310, .int n311, .long n312, .int i_6, .int i_7, .int i_8, .int i_9, .ref a_6, .ref a_7, .ref a_8, .ref a_9, .ref a_10, .ref a_11, .ref a_12, .ref a_13, .ref a_14, .ref a_15, .ref a_16, .ref a_17, .ref a_18, .int i_10, .int i_11, .int i_12, .int i_13, .int i_14, .int i_15, .ref a_19, .int i_16, .ref a_20])), (a_5, .inl (cy 0, 600, .inl f_0)), (a_7, .inl (cy 1, 30, .inl (mm_g [i_17, i_18, i_19, i_20, i_21, i_22, i_23, i_24, i_25, i_26, i_27, i_28, i_29, i_30, i_31, i_32, i_33, i_34, i_35, i_36, i_37, i_38, i_39, i_40, i_41, i_42, i_43, i_44, i_45, i_46]))), (a_9, .inl (cy 1, 15, .inl f_1)), (a_10, .inl (cy 1, 1050, .inl z37_4_72))] H) (hD : va_D A [(a_0, .inr (12, [.int i_0, .ref a_1, .ref a_2, .ref a_3, .ref a_4, .ref a_5, .int i_1, .int n308, .int n309, .int n310, .int n311, .long n312, .int i_6, .int i_7, .int i_8, .int i_9, .ref a_6, .ref a_7, .ref a_8, .ref a_9, .ref a_10, .ref a_11, .ref a_12, .ref a_13, .ref a_14, .ref a_15, .ref a_16, .ref a_17, .ref a_18, .int i_10, .int i_11, .int i_12, .int i_13, .int i_14, .int i_15, .ref a_19, .int i_16, .ref a_20])), (a_5, .inl (cy 0, 600, .inl f_0)), (a_7, .inl (cy 1, 30, .inl (mm_g [i_17, i_18, i_19, i_20, i_21, i_22, i_23, i_24, i_25, i_26, i_27, i_28, i_29, i_30, i_31, i_32, i_33, i_34, i_35, i_36, i_37, i_38, i_39, i_40, i_41, i_42, i_43, i_44, i_45, i_46]))), (a_9, .inl (cy 1, 15, .inl f_1)), (a_10, .inl (cy 1, 1050, .inl z37_4_72))]) hS
                  obtain ⟨w313, w314, w315, w316, w317, w318, w319⟩ := hw
                  replace w316 : (n310 : Int32).toInt ≤ (n308 : Int32).toInt := w316
                  replace w317 : (n308 : Int32).toInt ≤ (i_1 : Int32).toInt := w317
                  replace w318 : mm_tk n309 n310 n308 := w318
                  replace w319 : (i_2 : Int32).toInt ≤ (n310 : Int32).toInt := w319
                  refine lv_aload_n hx hb dX12_ruleLine_151 rfl (lv_at hl 4 rfl) ?_
                  refine mm_fini (va_runV (As := []) (rest := []) ⟨hx, hb, hml, hown, hts⟩ (M48_X12_wordHere l G cy H.size a_0 i_0 a_1 a_2 a_3 a_4 a_5 i_1 n308 n309 n310 n311 n312 i_6 i_7 i_8 i_9 a_6 a_7 a_8 a_9 a_10 a_11 a_12 a_13 a_14 a_15 a_16 a_17 a_18 i_10 i_11 i_12 i_13 i_14 i_15 a_19 i_16 a_20 f_0 i_17 i_18 i_19 i_20 i_21 i_22 i_23 i_24 i_25 i_26 i_27 i_28 i_29 i_30 i_31 i_32 i_33 i_34 i_35 i_36 i_37 i_38 i_39 i_40 i_41 i_42 i_43 i_44 i_45 i_46 h0 w313 w314 w315 h4 h5 h6 h7 h8 h9 h10 h11 h12 h13 h14 h15 h16 h17 h18 h19 h20 h21 h22 h23 h24 h25 h26 h27 h28 h29 h30 h31 h32 (mm_wk h33 (by decide)) h34 h35 w316 w317 w318) (cwV 0 hts (mm_gV mm_w532 mm_w533 mm_w534 mm_w5 mm_w535) rfl rfl rfl hd_X12_wordHere ⟨by rw [hRf]; exact Nat.le_of_ble_eq_true rfl, by rw [hRl]; exact Nat.le_of_ble_eq_true rfl⟩) (mm_preV hK hZ hS hA hP hD [0, 1, 2] rfl rfl 0 rfl rfl rfl) rfl rfl hl.1 rfl (lv_room (Nat.le_of_ble_eq_true rfl)) dX12_ruleLine_152 ⟨by rw [hRc]; exact Nat.le_of_ble_eq_true rfl, by rw [hRs]; exact Nat.le_of_ble_eq_true rfl⟩) hP hD hS hA (fun u : Int32 × Int32 × Int32 × Int32 × Int64 × Int32 × Int32 => [(a_0, .inr (12, [.int i_0, .ref a_1, .ref a_2, .ref a_3, .ref a_4, .ref a_5, .int i_1, .int u.1, .int u.2.1, .int u.2.2.1, .int u.2.2.2.1, .long u.2.2.2.2.1, .int u.2.2.2.2.2.1, .int u.2.2.2.2.2.2, .int i_8, .int i_9, .ref a_6, .ref a_7, .ref a_8, .ref a_9, .ref a_10, .ref a_11, .ref a_12, .ref a_13, .ref a_14, .ref a_15, .ref a_16, .ref a_17, .ref a_18, .int i_10, .int i_11, .int i_12, .int i_13, .int i_14, .int i_15, .ref a_19, .int i_16, .ref a_20])), (a_5, .inl (cy 0, 600, .inl f_0)), (a_7, .inl (cy 1, 30, .inl (mm_g [i_17, i_18, i_19, i_20, i_21, i_22, i_23, i_24, i_25, i_26, i_27, i_28, i_29, i_30, i_31, i_32, i_33, i_34, i_35, i_36, i_37, i_38, i_39, i_40, i_41, i_42, i_43, i_44, i_45, i_46]))), (a_9, .inl (cy 1, 15, .inl f_1)), (a_10, .inl (cy 1, 1050, .inl z37_4_72))]) [0, 1, 2] [3, 4] (n := 5) (fun _ => rfl) (by decide +kernel) (by decide +kernel) rfl (fun _ => rfl) (wr := [(a_9, .inl (cy 1, 15, .inl f_1)), (a_10, .inl (cy 1, 1050, .inl z37_4_72))]) rfl (fun _ => rfl) (fun _ => @rfl _ ([a_0, a_5, a_7] : List Nat)) ?_
                  clear hP hD hS
                  clear H locs
                  intro v327 u
                  obtain ⟨n320, n321, n322, n323, n324, n325, n326⟩ := u
                  intro H locs hw (hP : va_P G vwCl [(a_0, .inr (12, [.int i_0, .ref a_1, .ref a_2, .ref a_3, .ref a_4, .ref a_5, .int i_1, .int n320, .int n321, .int n322, .int n323, .long n324, .int n325, .int n326, .int i_8, .int i_9, .ref a_6, .ref a_7, .ref a_8, .ref a_9, .ref a_10, .ref a_11, .ref a_12, .ref a_13, .ref a_14, .ref a_15, .ref a_16, .ref a_17, .ref a_18, .int i_10, .int i_11, .int i_12, .int i_13, .int i_14, .int i_15, .ref a_19, .int i_16, .ref a_20])), (a_5, .inl (cy 0, 600, .inl f_0)), (a_7, .inl (cy 1, 30, .inl (mm_g [i_17, i_18, i_19, i_20, i_21, i_22, i_23, i_24, i_25, i_26, i_27, i_28, i_29, i_30, i_31, i_32, i_33, i_34, i_35, i_36, i_37, i_38, i_39, i_40, i_41, i_42, i_43, i_44, i_45, i_46]))), (a_9, .inl (cy 1, 15, .inl f_1)), (a_10, .inl (cy 1, 1050, .inl z37_4_72))] H) (hD : va_D A [(a_0, .inr (12, [.int i_0, .ref a_1, .ref a_2, .ref a_3, .ref a_4, .ref a_5, .int i_1, .int n320, .int n321, .int n322, .int n323, .long n324, .int n325, .int n326, .int i_8, .int i_9, .ref a_6, .ref a_7, .ref a_8, .ref a_9, .ref a_10, .ref a_11, .ref a_12, .ref a_13, .ref a_14, .ref a_15, .ref a_16, .ref a_17, .ref a_18, .int i_10, .int i_11, .int i_12, .int i_13, .int i_14, .int i_15, .ref a_19, .int i_16, .ref a_20])), (a_5, .inl (cy 0, 600, .inl f_0)), (a_7, .inl (cy 1, 30, .inl (mm_g [i_17, i_18, i_19, i_20, i_21, i_22, i_23, i_24, i_25, i_26, i_27, i_28, i_29, i_30, i_31, i_32, i_33, i_34, i_35, i_36, i_37, i_38, i_39, i_40, i_41, i_42, i_43, i_44, i_45, i_46]))), (a_9, .inl (cy 1, 15, .inl f_1)), (a_10, .inl (cy 1, 1050, .inl z37_4_72))]) hS
                  obtain ⟨w328, w329, w330, w331, w332, w333, w334, w335, w336, hw⟩ := hw
                  replace w332 : (n322 : Int32).toInt ≤ (n320 : Int32).toInt := w332
                  replace w333 : (n320 : Int32).toInt ≤ (i_1 : Int32).toInt := w333
                  replace w334 : mm_tk n321 n322 n320 := w334
                  replace w335 : (n310 : Int32).toInt ≤ (n322 : Int32).toInt := w335
                  replace w336 : mm_b0 i_6 n325 := w336
                  obtain ⟨w337, w338, w339⟩ := hw
                  replace w338 : (v327 : Int32).toInt ≤ (i_43 : Int32).toInt := w338
                  replace w339 : mm_nv n325 v327 n309 n311 := w339
                  refine lv_istore (lv' := [(5, .int v327), (4, .int 0), (3, .int v10), (2, .int v8), (1, .int v3), (0, .ref a_0)]) hx hb dX12_ruleLine_155 hl (by decide) rfl ?_
                  clear hl
                  clear ls
                  intro ls hl
                  refine lv_aload_n hx hb dX12_ruleLine_157 rfl (lv_at hl 5 rfl) ?_
                  refine lv_iload hx hb dX12_ruleLine_158 (lv_at hl 0 rfl) ?_
                  refine lv_iload hx hb dX12_ruleLine_160 (lv_at hl 0 rfl) ?_
                  refine mm_fini (va_runV (As := [.int v327, .int v327]) (rest := []) ⟨hx, hb, hml, hown, hts⟩ (M62_X12_otherWord l G cy H.size a_0 v327 v327 i_0 a_1 a_2 a_3 a_4 a_5 i_1 n320 n321 n322 n323 n324 n325 n326 i_8 i_9 a_6 a_7 a_8 a_9 a_10 a_11 a_12 a_13 a_14 a_15 a_16 a_17 a_18 i_10 i_11 i_12 i_13 i_14 i_15 a_19 i_16 a_20 f_0 i_17 i_18 i_19 i_20 i_21 i_22 i_23 i_24 i_25 i_26 i_27 i_28 i_29 i_30 i_31 i_32 i_33 i_34 i_35 i_36 i_37 i_38 i_39 i_40 i_41 i_42 i_43 i_44 i_45 i_46 w337 w337 h0 w328 w329 w330 w331 h5 h6 h7 h8 h9 h10 h11 h12 h13 h14 h15 h16 h17 h18 h19 h20 h21 h22 h23 h24 h25 h26 h27 h28 h29 h30 h31 h32 (mm_wk h33 (by decide)) h34 h35 w332 w333 w334) (cwV 2 hts (mm_gV mm_w536 mm_w537 mm_w538 mm_w5 mm_w539) rfl rfl rfl hd_X12_otherWord ⟨by rw [hRf]; exact Nat.le_of_ble_eq_true rfl, by rw [hRl]; exact Nat.le_of_ble_eq_true rfl⟩) (mm_preV hK hZ hS hA hP hD [0, 1, 2] rfl rfl 0 rfl rfl rfl) rfl rfl hl.1 rfl (lv_room (Nat.le_of_ble_eq_true rfl)) dX12_ruleLine_162 ⟨by rw [hRc]; exact Nat.le_of_ble_eq_true rfl, by rw [hRs]; exact Nat.le_of_ble_eq_true rfl⟩) hP hD hS hA (fun u : Int32 × Int32 × Int32 × Int32 × Int64 × Int32 × Int32 => [(a_0, .inr (12, [.int i_0, .ref a_1, .ref a_2, .ref a_3, .ref a_4, .ref a_5, .int i_1, .int u.1, .int u.2.1, .int u.2.2.1, .int u.2.2.2.1, .long u.2.2.2.2.1, .int u.2.2.2.2.2.1, .int u.2.2.2.2.2.2, .int i_8, .int i_9, .ref a_6, .ref a_7, .ref a_8, .ref a_9, .ref a_10, .ref a_11, .ref a_12, .ref a_13, .ref a_14, .ref a_15, .ref a_16, .ref a_17, .ref a_18, .int i_10, .int i_11, .int i_12, .int i_13, .int i_14, .int i_15, .ref a_19, .int i_16, .ref a_20])), (a_5, .inl (cy 0, 600, .inl f_0)), (a_7, .inl (cy 1, 30, .inl (mm_g [i_17, i_18, i_19, i_20, i_21, i_22, i_23, i_24, i_25, i_26, i_27, i_28, i_29, i_30, i_31, i_32, i_33, i_34, i_35, i_36, i_37, i_38, i_39, i_40, i_41, i_42, i_43, i_44, i_45, i_46]))), (a_9, .inl (cy 1, 15, .inl f_1)), (a_10, .inl (cy 1, 1050, .inl z37_4_72))]) [0, 1, 2] [3, 4] (n := 5) (fun _ => rfl) (by decide +kernel) (by decide +kernel) rfl (fun _ => rfl) (wr := [(a_9, .inl (cy 1, 15, .inl f_1)), (a_10, .inl (cy 1, 1050, .inl z37_4_72))]) rfl (fun _ => rfl) (fun _ => @rfl _ ([a_0, a_5, a_7] : List Nat)) ?_
                  clear hP hD hS
                  clear H locs
                  intro v347 u
                  obtain ⟨n340, n341, n342, n343, n344, n345, n346⟩ := u
                  intro H locs hw (hP : va_P G vwCl [(a_0, .inr (12, [.int i_0, .ref a_1, .ref a_2, .ref a_3, .ref a_4, .ref a_5, .int i_1, .int n340, .int n341, .int n342, .int n343, .long n344, .int n345, .int n346, .int i_8, .int i_9, .ref a_6, .ref a_7, .ref a_8, .ref a_9, .ref a_10, .ref a_11, .ref a_12, .ref a_13, .ref a_14, .ref a_15, .ref a_16, .ref a_17, .ref a_18, .int i_10, .int i_11, .int i_12, .int i_13, .int i_14, .int i_15, .ref a_19, .int i_16, .ref a_20])), (a_5, .inl (cy 0, 600, .inl f_0)), (a_7, .inl (cy 1, 30, .inl (mm_g [i_17, i_18, i_19, i_20, i_21, i_22, i_23, i_24, i_25, i_26, i_27, i_28, i_29, i_30, i_31, i_32, i_33, i_34, i_35, i_36, i_37, i_38, i_39, i_40, i_41, i_42, i_43, i_44, i_45, i_46]))), (a_9, .inl (cy 1, 15, .inl f_1)), (a_10, .inl (cy 1, 1050, .inl z37_4_72))] H) (hD : va_D A [(a_0, .inr (12, [.int i_0, .ref a_1, .ref a_2, .ref a_3, .ref a_4, .ref a_5, .int i_1, .int n340, .int n341, .int n342, .int n343, .long n344, .int n345, .int n346, .int i_8, .int i_9, .ref a_6, .ref a_7, .ref a_8, .ref a_9, .ref a_10, .ref a_11, .ref a_12, .ref a_13, .ref a_14, .ref a_15, .ref a_16, .ref a_17, .ref a_18, .int i_10, .int i_11, .int i_12, .int i_13, .int i_14, .int i_15, .ref a_19, .int i_16, .ref a_20])), (a_5, .inl (cy 0, 600, .inl f_0)), (a_7, .inl (cy 1, 30, .inl (mm_g [i_17, i_18, i_19, i_20, i_21, i_22, i_23, i_24, i_25, i_26, i_27, i_28, i_29, i_30, i_31, i_32, i_33, i_34, i_35, i_36, i_37, i_38, i_39, i_40, i_41, i_42, i_43, i_44, i_45, i_46]))), (a_9, .inl (cy 1, 15, .inl f_1)), (a_10, .inl (cy 1, 1050, .inl z37_4_72))]) hS
                  obtain ⟨w348, w349, w350, w351, w352, w353, w354, w355, w356, hw⟩ := hw
                  replace w352 : (n342 : Int32).toInt ≤ (n340 : Int32).toInt := w352
                  replace w353 : (n340 : Int32).toInt ≤ (i_1 : Int32).toInt := w353
                  replace w354 : mm_tk n341 n342 n340 := w354
                  replace w355 : (n322 : Int32).toInt ≤ (n342 : Int32).toInt := w355
                  replace w356 : mm_b0 n325 n345 := w356
                  obtain ⟨w357, w358, w359, w360⟩ := hw
                  replace w358 : (v347 : Int32).toInt ≤ (i_43 : Int32).toInt := w358
                  replace w359 : mm_nq n345 v347 v327 := w359
                  replace w360 : mm_nq n345 v347 v327 := w360
                  refine lv_istore (lv' := [(6, .int v347), (5, .int v327), (4, .int 0), (3, .int v10), (2, .int v8), (1, .int v3), (0, .ref a_0)]) hx hb dX12_ruleLine_165 hl (by decide) rfl ?_
                  clear hl
                  clear ls
                  intro ls hl
                  refine lv_iload hx hb dX12_ruleLine_167 (lv_at hl 2 rfl) ?_
                  refine lv_if_eq (tgt := 183) hx hb dX12_ruleLine_169 (by decide) (fun c361 => ?_) (fun c361 => ?_)
                  · refine lv_iload hx hb dX12_ruleLine_183 (lv_at hl 1 rfl) ?_
                    refine lv_istore (lv' := [(7, .int v327), (6, .int v347), (5, .int v327), (4, .int 0), (3, .int v10), (2, .int v8), (1, .int v3), (0, .ref a_0)]) hx hb dX12_ruleLine_185 hl (by decide) rfl ?_
                    clear hl
                    clear ls
                    intro ls hl
                    refine lv_aload_n hx hb dX12_ruleLine_187 rfl (lv_at hl 7 rfl) ?_
                    refine va_get (D := G) (ci := 12) (v := .int n345) (C := RX12) (T := TX12) (N := 38) hx hb hts (mm_i inlX12) hown hK.1 hP 0 rfl rfl 12 (by decide) (mm_h hts mm_w436) (fun _ h9 => h9) rfl dX12_ruleLine_188 ?_
                    refine lv_if_eq (tgt := 195) hx hb dX12_ruleLine_191 (by decide) (fun c362 => ?_) (fun c362 => ?_)
                    · have q363 := mm_eqI (lo := 0) (hi := 0) c362 w351 mm_k0 (by decide)
                      have q364 : mm_rg n325 0 0 := mm_b0_d w356 q363 (by decide)
                      have q365 : mm_rg i_6 0 0 := mm_b0_d w336 q364 (by decide)
                      refine lv_aload_n hx hb dX12_ruleLine_195 rfl (lv_at hl 7 rfl) ?_
                      refine va_get (D := G) (ci := 12) (v := .ref a_10) (C := RX12) (T := TX12) (N := 38) hx hb hts (mm_i inlX12) hown hK.1 hP 0 rfl rfl 20 (by decide) (mm_h hts mm_w152) (fun _ h9 => h9) rfl dX12_ruleLine_196 ?_
                      refine lv_iload_n hx hb dX12_ruleLine_199 rfl (lv_at hl 5 rfl) ?_
                      refine lv_iload hx hb dX12_ruleLine_200 (lv_at hl 2 rfl) ?_
                      refine lv_iadd hx hb dX12_ruleLine_202 ?_
                      refine lv_topi (fun v366 ev366 => ?_)
                      have rv366 : mm_rg v366 840 1049 := mm_add ev366 rv8 w337 (by decide) (by decide)
                      have tv366 := mm_addE ev366 rv8 w337 (by decide)
                      refine lv_iload hx hb dX12_ruleLine_203 (lv_at hl 1 rfl) ?_
                      refine va_iast hx hb hK.1 hP hD hS 4 1 rfl rfl (mm_in rv366 (by decide)) dX12_ruleLine_205 ?_
                      clear hP hD hS
                      clear H locs
                      obtain ⟨g367, eg367⟩ : ∃ z : Nat → Int32, z = upd z37_4_72 v366.toNatClampNeg v347 := ⟨_, rfl⟩
                      rw [← eg367]
                      intro H locs (hP : va_P G vwCl [(a_0, .inr (12, [.int i_0, .ref a_1, .ref a_2, .ref a_3, .ref a_4, .ref a_5, .int i_1, .int n340, .int n341, .int n342, .int n343, .long n344, .int n345, .int n346, .int i_8, .int i_9, .ref a_6, .ref a_7, .ref a_8, .ref a_9, .ref a_10, .ref a_11, .ref a_12, .ref a_13, .ref a_14, .ref a_15, .ref a_16, .ref a_17, .ref a_18, .int i_10, .int i_11, .int i_12, .int i_13, .int i_14, .int i_15, .ref a_19, .int i_16, .ref a_20])), (a_5, .inl (cy 0, 600, .inl f_0)), (a_7, .inl (cy 1, 30, .inl (mm_g [i_17, i_18, i_19, i_20, i_21, i_22, i_23, i_24, i_25, i_26, i_27, i_28, i_29, i_30, i_31, i_32, i_33, i_34, i_35, i_36, i_37, i_38, i_39, i_40, i_41, i_42, i_43, i_44, i_45, i_46]))), (a_9, .inl (cy 1, 15, .inl f_1)), (a_10, .inl (cy 1, 1050, .inl g367))] H) (hD : va_D A [(a_0, .inr (12, [.int i_0, .ref a_1, .ref a_2, .ref a_3, .ref a_4, .ref a_5, .int i_1, .int n340, .int n341, .int n342, .int n343, .long n344, .int n345, .int n346, .int i_8, .int i_9, .ref a_6, .ref a_7, .ref a_8, .ref a_9, .ref a_10, .ref a_11, .ref a_12, .ref a_13, .ref a_14, .ref a_15, .ref a_16, .ref a_17, .ref a_18, .int i_10, .int i_11, .int i_12, .int i_13, .int i_14, .int i_15, .ref a_19, .int i_16, .ref a_20])), (a_5, .inl (cy 0, 600, .inl f_0)), (a_7, .inl (cy 1, 30, .inl (mm_g [i_17, i_18, i_19, i_20, i_21, i_22, i_23, i_24, i_25, i_26, i_27, i_28, i_29, i_30, i_31, i_32, i_33, i_34, i_35, i_36, i_37, i_38, i_39, i_40, i_41, i_42, i_43, i_44, i_45, i_46]))), (a_9, .inl (cy 1, 15, .inl f_1)), (a_10, .inl (cy 1, 1050, .inl g367))]) hS
                      have rg367 : mm_ar g367 0 9 := by rw [eg367]; exact mm_ar_upd (mm_ar_wk rz37_4_72 (by decide)) (mm_wk w357 (by decide)) _
                      refine lv_aload_n hx hb dX12_ruleLine_206 rfl (lv_at hl 7 rfl) ?_
                      refine va_get (D := G) (ci := 12) (v := .ref a_10) (C := RX12) (T := TX12) (N := 38) hx hb hts (mm_i inlX12) hown hK.1 hP 0 rfl rfl 20 (by decide) (mm_h hts mm_w152) (fun _ h9 => h9) rfl dX12_ruleLine_207 ?_
                      refine lv_iload_n hx hb dX12_ruleLine_210 rfl (lv_at hl 5 rfl) ?_
                      refine lv_iload hx hb dX12_ruleLine_211 (lv_at hl 1 rfl) ?_
                      refine lv_iadd hx hb dX12_ruleLine_213 ?_
                      refine lv_topi (fun v368 ev368 => ?_)
                      have rv368 : mm_rg v368 840 1049 := mm_add ev368 rv8 w357 (by decide) (by decide)
                      have tv368 := mm_addE ev368 rv8 w357 (by decide)
                      refine lv_iload hx hb dX12_ruleLine_214 (lv_at hl 0 rfl) ?_
                      refine va_iast hx hb hK.1 hP hD hS 4 1 rfl rfl (mm_in rv368 (by decide)) dX12_ruleLine_216 ?_
                      clear hP hD hS
                      clear H locs
                      obtain ⟨g369, eg369⟩ : ∃ z : Nat → Int32, z = upd g367 v368.toNatClampNeg v327 := ⟨_, rfl⟩
                      rw [← eg369]
                      intro H locs (hP : va_P G vwCl [(a_0, .inr (12, [.int i_0, .ref a_1, .ref a_2, .ref a_3, .ref a_4, .ref a_5, .int i_1, .int n340, .int n341, .int n342, .int n343, .long n344, .int n345, .int n346, .int i_8, .int i_9, .ref a_6, .ref a_7, .ref a_8, .ref a_9, .ref a_10, .ref a_11, .ref a_12, .ref a_13, .ref a_14, .ref a_15, .ref a_16, .ref a_17, .ref a_18, .int i_10, .int i_11, .int i_12, .int i_13, .int i_14, .int i_15, .ref a_19, .int i_16, .ref a_20])), (a_5, .inl (cy 0, 600, .inl f_0)), (a_7, .inl (cy 1, 30, .inl (mm_g [i_17, i_18, i_19, i_20, i_21, i_22, i_23, i_24, i_25, i_26, i_27, i_28, i_29, i_30, i_31, i_32, i_33, i_34, i_35, i_36, i_37, i_38, i_39, i_40, i_41, i_42, i_43, i_44, i_45, i_46]))), (a_9, .inl (cy 1, 15, .inl f_1)), (a_10, .inl (cy 1, 1050, .inl g369))] H) (hD : va_D A [(a_0, .inr (12, [.int i_0, .ref a_1, .ref a_2, .ref a_3, .ref a_4, .ref a_5, .int i_1, .int n340, .int n341, .int n342, .int n343, .long n344, .int n345, .int n346, .int i_8, .int i_9, .ref a_6, .ref a_7, .ref a_8, .ref a_9, .ref a_10, .ref a_11, .ref a_12, .ref a_13, .ref a_14, .ref a_15, .ref a_16, .ref a_17, .ref a_18, .int i_10, .int i_11, .int i_12, .int i_13, .int i_14, .int i_15, .ref a_19, .int i_16, .ref a_20])), (a_5, .inl (cy 0, 600, .inl f_0)), (a_7, .inl (cy 1, 30, .inl (mm_g [i_17, i_18, i_19, i_20, i_21, i_22, i_23, i_24, i_25, i_26, i_27, i_28, i_29, i_30, i_31, i_32, i_33, i_34, i_35, i_36, i_37, i_38, i_39, i_40, i_41, i_42, i_43, i_44, i_45, i_46]))), (a_9, .inl (cy 1, 15, .inl f_1)), (a_10, .inl (cy 1, 1050, .inl g369))]) hS
                      have rg369 : mm_ar g369 0 9 := by rw [eg369]; exact mm_ar_upd (mm_ar_wk rg367 (by decide)) (mm_wk w337 (by decide)) _
                      refine lv_iload hx hb dX12_ruleLine_217 (lv_at hl 3 rfl) ?_
                      refine lv_if_eq (tgt := 233) hx hb dX12_ruleLine_219 (by decide) (fun c370 => ?_) (fun c370 => ?_)
                      · refine lv_goto (tgt := 243) hx hb dX12_ruleLine_233 (by decide) ?_
                        refine lv_aload_n hx hb dX12_ruleLine_243 rfl (lv_at hl 7 rfl) ?_
                        refine va_get (D := G) (ci := 12) (v := .ref a_9) (C := RX12) (T := TX12) (N := 38) hx hb hts (mm_i inlX12) hown hK.1 hP 0 rfl rfl 19 (by decide) (mm_h hts mm_w151) (fun _ h9 => h9) rfl dX12_ruleLine_244 ?_
                        refine lv_iload_n hx hb dX12_ruleLine_247 rfl (lv_at hl 6 rfl) ?_
                        refine lv_dup2_11 hx hb dX12_ruleLine_248 rfl rfl ?_
                        refine va_iald hx hb hK.1 hP 3 1 rfl rfl (mm_in rv3 (by decide)) dX12_ruleLine_249 ?_
                        refine lv_topi (fun v371 ev371 => ?_)
                        have rv371 : mm_rg v371 0 7 := mm_eqv ev371 (h36 _)
                        have q372 : mm_rg v371 0 6 := mm_rq_ld h45 ev371 rv371 h33 (by have := tv3; have := tv2; omega) (by decide)
                        obtain rfl : v5 = v371 := ev5.trans ev371.symm
                        refine lv_iconst (v := 1) hx hb dX12_ruleLine_250 (by decide) ?_
                        refine lv_iadd hx hb dX12_ruleLine_251 ?_
                        refine lv_topi (fun v373 ev373 => ?_)
                        have rv373 : mm_rg v373 1 7 := mm_add ev373 q6 mm_k1 (by decide) (by decide)
                        have tv373 := mm_addEc ev373 q6 mm_k1 (by decide) (k := 1) (by decide)
                        refine va_iast hx hb hK.1 hP hD hS 3 1 rfl rfl (mm_in rv3 (by decide)) dX12_ruleLine_252 ?_
                        clear hP hD hS
                        clear H locs
                        obtain ⟨g374, eg374⟩ : ∃ z : Nat → Int32, z = upd f_1 v3.toNatClampNeg v373 := ⟨_, rfl⟩
                        rw [← eg374]
                        intro H locs (hP : va_P G vwCl [(a_0, .inr (12, [.int i_0, .ref a_1, .ref a_2, .ref a_3, .ref a_4, .ref a_5, .int i_1, .int n340, .int n341, .int n342, .int n343, .long n344, .int n345, .int n346, .int i_8, .int i_9, .ref a_6, .ref a_7, .ref a_8, .ref a_9, .ref a_10, .ref a_11, .ref a_12, .ref a_13, .ref a_14, .ref a_15, .ref a_16, .ref a_17, .ref a_18, .int i_10, .int i_11, .int i_12, .int i_13, .int i_14, .int i_15, .ref a_19, .int i_16, .ref a_20])), (a_5, .inl (cy 0, 600, .inl f_0)), (a_7, .inl (cy 1, 30, .inl (mm_g [i_17, i_18, i_19, i_20, i_21, i_22, i_23, i_24, i_25, i_26, i_27, i_28, i_29, i_30, i_31, i_32, i_33, i_34, i_35, i_36, i_37, i_38, i_39, i_40, i_41, i_42, i_43, i_44, i_45, i_46]))), (a_9, .inl (cy 1, 15, .inl g374)), (a_10, .inl (cy 1, 1050, .inl g369))] H) (hD : va_D A [(a_0, .inr (12, [.int i_0, .ref a_1, .ref a_2, .ref a_3, .ref a_4, .ref a_5, .int i_1, .int n340, .int n341, .int n342, .int n343, .long n344, .int n345, .int n346, .int i_8, .int i_9, .ref a_6, .ref a_7, .ref a_8, .ref a_9, .ref a_10, .ref a_11, .ref a_12, .ref a_13, .ref a_14, .ref a_15, .ref a_16, .ref a_17, .ref a_18, .int i_10, .int i_11, .int i_12, .int i_13, .int i_14, .int i_15, .ref a_19, .int i_16, .ref a_20])), (a_5, .inl (cy 0, 600, .inl f_0)), (a_7, .inl (cy 1, 30, .inl (mm_g [i_17, i_18, i_19, i_20, i_21, i_22, i_23, i_24, i_25, i_26, i_27, i_28, i_29, i_30, i_31, i_32, i_33, i_34, i_35, i_36, i_37, i_38, i_39, i_40, i_41, i_42, i_43, i_44, i_45, i_46]))), (a_9, .inl (cy 1, 15, .inl g374)), (a_10, .inl (cy 1, 1050, .inl g369))]) hS
                        have rg374 : mm_ar g374 0 7 := by rw [eg374]; exact mm_ar_upd (mm_ar_wk h36 (by decide)) (mm_wk rv373 (by decide)) _
                        have w375 : mm_rls g374 g369 0 i_19 i_20 := (mm_rls_fr h38 (mm_fr_u (mm_fr_r _ _) eg374 rv3 (by decide)) (mm_fr_u (mm_fr_u w73 eg367 rv366 (by decide)) eg369 rv368 (by decide)) (by decide))
                        have w376 : mm_rls g374 g369 1 i_25 i_26 := (mm_rls_fr h39 (mm_fr_u (mm_fr_r _ _) eg374 rv3 (by decide)) (mm_fr_u (mm_fr_u w73 eg367 rv366 (by decide)) eg369 rv368 (by decide)) (by decide))
                        have w377 : mm_rls g374 g369 2 i_31 i_32 := (mm_rls_fr h40 (mm_fr_u (mm_fr_r _ _) eg374 rv3 (by decide)) (mm_fr_u (mm_fr_u w73 eg367 rv366 (by decide)) eg369 rv368 (by decide)) (by decide))
                        have w378 : mm_rls g374 g369 3 i_37 i_38 := (mm_rls_fr h41 (mm_fr_u (mm_fr_r _ _) eg374 rv3 (by decide)) (mm_fr_u (mm_fr_u w73 eg367 rv366 (by decide)) eg369 rv368 (by decide)) (by decide))
                        have w379 : (i_4 : Int32).toInt ≤ (n342 : Int32).toInt := (by have := h42; have := w319; have := w335; have := w355; omega)
                        have w380 : mm_rls g374 g369 4 i_43 i_44 := (mm_rls_rule h46 eg374 (by have := tv3; have := tv2; omega) ev5 tv373 (by have := tv8; have := tv7; have := tv4; omega) (mm_ag_u (mm_ag_u w74 eg367 tv366 w337 rv8 (by decide)) eg369 tv368 w357 rv8 (by decide)) (mm_pmr_sw (mm_idk_w w75 q78 (by decide)) eg367 tv366 eg369 tv368 w338 w358 (mm_nq_ne w359 q363 (by decide)) h32 rv8 w337 w357 (by decide)) h33 q6 (by decide))
                        have w381 : mm_fr f_1 g374 12 := (mm_fr_u (mm_fr_r _ _) eg374 rv3 (by decide))
                        have w382 : mm_fr f_2 g369 840 := (mm_fr_u (mm_fr_u w73 eg367 rv366 (by decide)) eg369 rv368 (by decide))
                        subst hAe
                        rw [hQ]
                        exact W.vret hx hb hr (fun t ht hW => ⟨⟨(n340, n341, n342, n343, n344, n345, n346, g374, g369), rfl, ⟨w348, w349, w350, (mm_wk q363 (by decide)), rg374, rg369, w375, w376, w377, w378, w352, w353, w354, w379, w380, w381, w382⟩, by rw [ht]; exact hP, hK.warm hW, hD⟩, hS.F ht⟩) hS.2.2 dX12_ruleLine_253
                      · have q383 := mm_neL (lo := 1) (mm_ne c370) mm_k0 mm_k0 (by decide) (by decide)
                        exact mm_no q383 (by decide)
                    · have q384 := mm_neL (lo := 1) (mm_ne c362) w351 mm_k0 (by decide) (by decide)
                      have w385 : mm_rls f_1 z37_4_72 0 i_19 i_20 := (mm_rls_fr h38 (mm_fr_r _ _) w73 (by decide))
                      have w386 : mm_rls f_1 z37_4_72 1 i_25 i_26 := (mm_rls_fr h39 (mm_fr_r _ _) w73 (by decide))
                      have w387 : mm_rls f_1 z37_4_72 2 i_31 i_32 := (mm_rls_fr h40 (mm_fr_r _ _) w73 (by decide))
                      have w388 : mm_rls f_1 z37_4_72 3 i_37 i_38 := (mm_rls_fr h41 (mm_fr_r _ _) w73 (by decide))
                      have w389 : (i_4 : Int32).toInt ≤ (n342 : Int32).toInt := (by have := h42; have := w319; have := w335; have := w355; omega)
                      have w390 : mm_rls f_1 z37_4_72 4 i_43 i_44 := (mm_rls_beg h46 (by have := tv3; have := tv2; omega) ev5 (by have := tv8; have := tv7; have := tv4; omega) w74 h33 q6 (by decide))
                      have w391 : mm_fr f_1 f_1 12 := (mm_fr_r _ _)
                      subst hAe
                      rw [hQ]
                      exact W.vret hx hb hr (fun t ht hW => ⟨⟨(n340, n341, n342, n343, n344, n345, n346, f_1, z37_4_72), rfl, ⟨w348, w349, w350, (mm_wk q384 (by decide)), h36, rz37_4_72, w385, w386, w387, w388, w352, w353, w354, w389, w390, w391, w73⟩, by rw [ht]; exact hP, hK.warm hW, hD⟩, hS.F ht⟩) hS.2.2 dX12_ruleLine_194
                  · have q392 := mm_neL (lo := 1) (mm_ne c361) mm_k0 mm_k0 (by decide) (by decide)
                    exact mm_no q392 (by decide)
                · refine lv_istore (lv' := [(4, .int 1), (3, .int v10), (2, .int v8), (1, .int v3), (0, .ref a_0)]) hx hb dX12_ruleLine_145 hl (by decide) rfl ?_
                  clear hl
                  clear ls
                  intro ls hl
                  refine lv_aload_n hx hb dX12_ruleLine_147 rfl (lv_at hl 4 rfl) ?_
                  refine mm_finv (va_runV (As := []) (rest := []) ⟨hx, hb, hml, hown, hts⟩ (M22_X12_next l G cy H.size a_0 i_0 a_1 a_2 a_3 a_4 a_5 i_1 i_2 i_3 i_4 i_5 j_0 i_6 i_7 i_8 i_9 a_6 a_7 a_8 a_9 a_10 a_11 a_12 a_13 a_14 a_15 a_16 a_17 a_18 i_10 i_11 i_12 i_13 i_14 i_15 a_19 i_16 a_20 f_0 h0 h1 h2 h3 h5 h43) (cwV 0 hts (mm_gV mm_w451 mm_w452 mm_w453 mm_w5 mm_w454) rfl rfl rfl hd_X12_next ⟨by rw [hRf]; exact Nat.le_of_ble_eq_true rfl, by rw [hRl]; exact Nat.le_of_ble_eq_true rfl⟩) (mm_preV hK hZ hS hA hP hD [0, 1] rfl rfl 0 rfl rfl rfl) rfl rfl hl.1 rfl (lv_room (Nat.le_of_ble_eq_true rfl)) dX12_ruleLine_148 ⟨by rw [hRc]; exact Nat.le_of_ble_eq_true rfl, by rw [hRs]; exact Nat.le_of_ble_eq_true rfl⟩) hP hD hS hA (fun u : Int32 × Int32 × Int32 × Int32 × Int64 => [(a_0, .inr (12, [.int i_0, .ref a_1, .ref a_2, .ref a_3, .ref a_4, .ref a_5, .int i_1, .int u.1, .int u.2.1, .int u.2.2.1, .int u.2.2.2.1, .long u.2.2.2.2, .int i_6, .int i_7, .int i_8, .int i_9, .ref a_6, .ref a_7, .ref a_8, .ref a_9, .ref a_10, .ref a_11, .ref a_12, .ref a_13, .ref a_14, .ref a_15, .ref a_16, .ref a_17, .ref a_18, .int i_10, .int i_11, .int i_12, .int i_13, .int i_14, .int i_15, .ref a_19, .int i_16, .ref a_20])), (a_5, .inl (cy 0, 600, .inl f_0)), (a_7, .inl (cy 1, 30, .inl (mm_g [i_17, i_18, i_19, i_20, i_21, i_22, i_23, i_24, i_25, i_26, i_27, i_28, i_29, i_30, i_31, i_32, i_33, i_34, i_35, i_36, i_37, i_38, i_39, i_40, i_41, i_42, i_43, i_44, i_45, i_46]))), (a_9, .inl (cy 1, 15, .inl f_1)), (a_10, .inl (cy 1, 1050, .inl z37_4_72))]) [0, 1] [2, 3, 4] (n := 5) (fun _ => rfl) (by decide +kernel) (by decide +kernel) rfl (fun _ => rfl) (wr := [(a_7, .inl (cy 1, 30, .inl (mm_g [i_17, i_18, i_19, i_20, i_21, i_22, i_23, i_24, i_25, i_26, i_27, i_28, i_29, i_30, i_31, i_32, i_33, i_34, i_35, i_36, i_37, i_38, i_39, i_40, i_41, i_42, i_43, i_44, i_45, i_46]))), (a_9, .inl (cy 1, 15, .inl f_1)), (a_10, .inl (cy 1, 1050, .inl z37_4_72))]) rfl (fun _ => rfl) (fun _ => rfl) ?_
                  clear hP hD hS
                  clear H locs
                  intro u
                  obtain ⟨n393, n394, n395, n396, n397⟩ := u
                  intro H locs hw (hP : va_P G vwCl [(a_0, .inr (12, [.int i_0, .ref a_1, .ref a_2, .ref a_3, .ref a_4, .ref a_5, .int i_1, .int n393, .int n394, .int n395, .int n396, .long n397, .int i_6, .int i_7, .int i_8, .int i_9, .ref a_6, .ref a_7, .ref a_8, .ref a_9, .ref a_10, .ref a_11, .ref a_12, .ref a_13, .ref a_14, .ref a_15, .ref a_16, .ref a_17, .ref a_18, .int i_10, .int i_11, .int i_12, .int i_13, .int i_14, .int i_15, .ref a_19, .int i_16, .ref a_20])), (a_5, .inl (cy 0, 600, .inl f_0)), (a_7, .inl (cy 1, 30, .inl (mm_g [i_17, i_18, i_19, i_20, i_21, i_22, i_23, i_24, i_25, i_26, i_27, i_28, i_29, i_30, i_31, i_32, i_33, i_34, i_35, i_36, i_37, i_38, i_39, i_40, i_41, i_42, i_43, i_44, i_45, i_46]))), (a_9, .inl (cy 1, 15, .inl f_1)), (a_10, .inl (cy 1, 1050, .inl z37_4_72))] H) (hD : va_D A [(a_0, .inr (12, [.int i_0, .ref a_1, .ref a_2, .ref a_3, .ref a_4, .ref a_5, .int i_1, .int n393, .int n394, .int n395, .int n396, .long n397, .int i_6, .int i_7, .int i_8, .int i_9, .ref a_6, .ref a_7, .ref a_8, .ref a_9, .ref a_10, .ref a_11, .ref a_12, .ref a_13, .ref a_14, .ref a_15, .ref a_16, .ref a_17, .ref a_18, .int i_10, .int i_11, .int i_12, .int i_13, .int i_14, .int i_15, .ref a_19, .int i_16, .ref a_20])), (a_5, .inl (cy 0, 600, .inl f_0)), (a_7, .inl (cy 1, 30, .inl (mm_g [i_17, i_18, i_19, i_20, i_21, i_22, i_23, i_24, i_25, i_26, i_27, i_28, i_29, i_30, i_31, i_32, i_33, i_34, i_35, i_36, i_37, i_38, i_39, i_40, i_41, i_42, i_43, i_44, i_45, i_46]))), (a_9, .inl (cy 1, 15, .inl f_1)), (a_10, .inl (cy 1, 1050, .inl z37_4_72))]) hS
                  obtain ⟨w398, w399, w400, w401, w402, w403, w404⟩ := hw
                  replace w401 : (n395 : Int32).toInt ≤ (n393 : Int32).toInt := w401
                  replace w402 : (n393 : Int32).toInt ≤ (i_1 : Int32).toInt := w402
                  replace w403 : mm_tk n394 n395 n393 := w403
                  replace w404 : (i_2 : Int32).toInt ≤ (n395 : Int32).toInt := w404
                  refine lv_aload_n hx hb dX12_ruleLine_151 rfl (lv_at hl 4 rfl) ?_
                  refine mm_fini (va_runV (As := []) (rest := []) ⟨hx, hb, hml, hown, hts⟩ (M48_X12_wordHere l G cy H.size a_0 i_0 a_1 a_2 a_3 a_4 a_5 i_1 n393 n394 n395 n396 n397 i_6 i_7 i_8 i_9 a_6 a_7 a_8 a_9 a_10 a_11 a_12 a_13 a_14 a_15 a_16 a_17 a_18 i_10 i_11 i_12 i_13 i_14 i_15 a_19 i_16 a_20 f_0 i_17 i_18 i_19 i_20 i_21 i_22 i_23 i_24 i_25 i_26 i_27 i_28 i_29 i_30 i_31 i_32 i_33 i_34 i_35 i_36 i_37 i_38 i_39 i_40 i_41 i_42 i_43 i_44 i_45 i_46 h0 w398 w399 w400 h4 h5 h6 h7 h8 h9 h10 h11 h12 h13 h14 h15 h16 h17 h18 h19 h20 h21 h22 h23 h24 h25 h26 h27 h28 h29 h30 h31 h32 (mm_wk h33 (by decide)) h34 h35 w401 w402 w403) (cwV 0 hts (mm_gV mm_w532 mm_w533 mm_w534 mm_w5 mm_w535) rfl rfl rfl hd_X12_wordHere ⟨by rw [hRf]; exact Nat.le_of_ble_eq_true rfl, by rw [hRl]; exact Nat.le_of_ble_eq_true rfl⟩) (mm_preV hK hZ hS hA hP hD [0, 1, 2] rfl rfl 0 rfl rfl rfl) rfl rfl hl.1 rfl (lv_room (Nat.le_of_ble_eq_true rfl)) dX12_ruleLine_152 ⟨by rw [hRc]; exact Nat.le_of_ble_eq_true rfl, by rw [hRs]; exact Nat.le_of_ble_eq_true rfl⟩) hP hD hS hA (fun u : Int32 × Int32 × Int32 × Int32 × Int64 × Int32 × Int32 => [(a_0, .inr (12, [.int i_0, .ref a_1, .ref a_2, .ref a_3, .ref a_4, .ref a_5, .int i_1, .int u.1, .int u.2.1, .int u.2.2.1, .int u.2.2.2.1, .long u.2.2.2.2.1, .int u.2.2.2.2.2.1, .int u.2.2.2.2.2.2, .int i_8, .int i_9, .ref a_6, .ref a_7, .ref a_8, .ref a_9, .ref a_10, .ref a_11, .ref a_12, .ref a_13, .ref a_14, .ref a_15, .ref a_16, .ref a_17, .ref a_18, .int i_10, .int i_11, .int i_12, .int i_13, .int i_14, .int i_15, .ref a_19, .int i_16, .ref a_20])), (a_5, .inl (cy 0, 600, .inl f_0)), (a_7, .inl (cy 1, 30, .inl (mm_g [i_17, i_18, i_19, i_20, i_21, i_22, i_23, i_24, i_25, i_26, i_27, i_28, i_29, i_30, i_31, i_32, i_33, i_34, i_35, i_36, i_37, i_38, i_39, i_40, i_41, i_42, i_43, i_44, i_45, i_46]))), (a_9, .inl (cy 1, 15, .inl f_1)), (a_10, .inl (cy 1, 1050, .inl z37_4_72))]) [0, 1, 2] [3, 4] (n := 5) (fun _ => rfl) (by decide +kernel) (by decide +kernel) rfl (fun _ => rfl) (wr := [(a_9, .inl (cy 1, 15, .inl f_1)), (a_10, .inl (cy 1, 1050, .inl z37_4_72))]) rfl (fun _ => rfl) (fun _ => @rfl _ ([a_0, a_5, a_7] : List Nat)) ?_
                  clear hP hD hS
                  clear H locs
                  intro v412 u
                  obtain ⟨n405, n406, n407, n408, n409, n410, n411⟩ := u
                  intro H locs hw (hP : va_P G vwCl [(a_0, .inr (12, [.int i_0, .ref a_1, .ref a_2, .ref a_3, .ref a_4, .ref a_5, .int i_1, .int n405, .int n406, .int n407, .int n408, .long n409, .int n410, .int n411, .int i_8, .int i_9, .ref a_6, .ref a_7, .ref a_8, .ref a_9, .ref a_10, .ref a_11, .ref a_12, .ref a_13, .ref a_14, .ref a_15, .ref a_16, .ref a_17, .ref a_18, .int i_10, .int i_11, .int i_12, .int i_13, .int i_14, .int i_15, .ref a_19, .int i_16, .ref a_20])), (a_5, .inl (cy 0, 600, .inl f_0)), (a_7, .inl (cy 1, 30, .inl (mm_g [i_17, i_18, i_19, i_20, i_21, i_22, i_23, i_24, i_25, i_26, i_27, i_28, i_29, i_30, i_31, i_32, i_33, i_34, i_35, i_36, i_37, i_38, i_39, i_40, i_41, i_42, i_43, i_44, i_45, i_46]))), (a_9, .inl (cy 1, 15, .inl f_1)), (a_10, .inl (cy 1, 1050, .inl z37_4_72))] H) (hD : va_D A [(a_0, .inr (12, [.int i_0, .ref a_1, .ref a_2, .ref a_3, .ref a_4, .ref a_5, .int i_1, .int n405, .int n406, .int n407, .int n408, .long n409, .int n410, .int n411, .int i_8, .int i_9, .ref a_6, .ref a_7, .ref a_8, .ref a_9, .ref a_10, .ref a_11, .ref a_12, .ref a_13, .ref a_14, .ref a_15, .ref a_16, .ref a_17, .ref a_18, .int i_10, .int i_11, .int i_12, .int i_13, .int i_14, .int i_15, .ref a_19, .int i_16, .ref a_20])), (a_5, .inl (cy 0, 600, .inl f_0)), (a_7, .inl (cy 1, 30, .inl (mm_g [i_17, i_18, i_19, i_20, i_21, i_22, i_23, i_24, i_25, i_26, i_27, i_28, i_29, i_30, i_31, i_32, i_33, i_34, i_35, i_36, i_37, i_38, i_39, i_40, i_41, i_42, i_43, i_44, i_45, i_46]))), (a_9, .inl (cy 1, 15, .inl f_1)), (a_10, .inl (cy 1, 1050, .inl z37_4_72))]) hS
                  obtain ⟨w413, w414, w415, w416, w417, w418, w419, w420, w421, hw⟩ := hw
                  replace w417 : (n407 : Int32).toInt ≤ (n405 : Int32).toInt := w417
                  replace w418 : (n405 : Int32).toInt ≤ (i_1 : Int32).toInt := w418
                  replace w419 : mm_tk n406 n407 n405 := w419
                  replace w420 : (n395 : Int32).toInt ≤ (n407 : Int32).toInt := w420
                  replace w421 : mm_b0 i_6 n410 := w421
                  obtain ⟨w422, w423, w424⟩ := hw
                  replace w423 : (v412 : Int32).toInt ≤ (i_43 : Int32).toInt := w423
                  replace w424 : mm_nv n410 v412 n394 n396 := w424
                  refine lv_istore (lv' := [(5, .int v412), (4, .int 1), (3, .int v10), (2, .int v8), (1, .int v3), (0, .ref a_0)]) hx hb dX12_ruleLine_155 hl (by decide) rfl ?_
                  clear hl
                  clear ls
                  intro ls hl
                  refine lv_aload_n hx hb dX12_ruleLine_157 rfl (lv_at hl 5 rfl) ?_
                  refine lv_iload hx hb dX12_ruleLine_158 (lv_at hl 0 rfl) ?_
                  refine lv_iload hx hb dX12_ruleLine_160 (lv_at hl 0 rfl) ?_
                  refine mm_fini (va_runV (As := [.int v412, .int v412]) (rest := []) ⟨hx, hb, hml, hown, hts⟩ (M62_X12_otherWord l G cy H.size a_0 v412 v412 i_0 a_1 a_2 a_3 a_4 a_5 i_1 n405 n406 n407 n408 n409 n410 n411 i_8 i_9 a_6 a_7 a_8 a_9 a_10 a_11 a_12 a_13 a_14 a_15 a_16 a_17 a_18 i_10 i_11 i_12 i_13 i_14 i_15 a_19 i_16 a_20 f_0 i_17 i_18 i_19 i_20 i_21 i_22 i_23 i_24 i_25 i_26 i_27 i_28 i_29 i_30 i_31 i_32 i_33 i_34 i_35 i_36 i_37 i_38 i_39 i_40 i_41 i_42 i_43 i_44 i_45 i_46 w422 w422 h0 w413 w414 w415 w416 h5 h6 h7 h8 h9 h10 h11 h12 h13 h14 h15 h16 h17 h18 h19 h20 h21 h22 h23 h24 h25 h26 h27 h28 h29 h30 h31 h32 (mm_wk h33 (by decide)) h34 h35 w417 w418 w419) (cwV 2 hts (mm_gV mm_w536 mm_w537 mm_w538 mm_w5 mm_w539) rfl rfl rfl hd_X12_otherWord ⟨by rw [hRf]; exact Nat.le_of_ble_eq_true rfl, by rw [hRl]; exact Nat.le_of_ble_eq_true rfl⟩) (mm_preV hK hZ hS hA hP hD [0, 1, 2] rfl rfl 0 rfl rfl rfl) rfl rfl hl.1 rfl (lv_room (Nat.le_of_ble_eq_true rfl)) dX12_ruleLine_162 ⟨by rw [hRc]; exact Nat.le_of_ble_eq_true rfl, by rw [hRs]; exact Nat.le_of_ble_eq_true rfl⟩) hP hD hS hA (fun u : Int32 × Int32 × Int32 × Int32 × Int64 × Int32 × Int32 => [(a_0, .inr (12, [.int i_0, .ref a_1, .ref a_2, .ref a_3, .ref a_4, .ref a_5, .int i_1, .int u.1, .int u.2.1, .int u.2.2.1, .int u.2.2.2.1, .long u.2.2.2.2.1, .int u.2.2.2.2.2.1, .int u.2.2.2.2.2.2, .int i_8, .int i_9, .ref a_6, .ref a_7, .ref a_8, .ref a_9, .ref a_10, .ref a_11, .ref a_12, .ref a_13, .ref a_14, .ref a_15, .ref a_16, .ref a_17, .ref a_18, .int i_10, .int i_11, .int i_12, .int i_13, .int i_14, .int i_15, .ref a_19, .int i_16, .ref a_20])), (a_5, .inl (cy 0, 600, .inl f_0)), (a_7, .inl (cy 1, 30, .inl (mm_g [i_17, i_18, i_19, i_20, i_21, i_22, i_23, i_24, i_25, i_26, i_27, i_28, i_29, i_30, i_31, i_32, i_33, i_34, i_35, i_36, i_37, i_38, i_39, i_40, i_41, i_42, i_43, i_44, i_45, i_46]))), (a_9, .inl (cy 1, 15, .inl f_1)), (a_10, .inl (cy 1, 1050, .inl z37_4_72))]) [0, 1, 2] [3, 4] (n := 5) (fun _ => rfl) (by decide +kernel) (by decide +kernel) rfl (fun _ => rfl) (wr := [(a_9, .inl (cy 1, 15, .inl f_1)), (a_10, .inl (cy 1, 1050, .inl z37_4_72))]) rfl (fun _ => rfl) (fun _ => @rfl _ ([a_0, a_5, a_7] : List Nat)) ?_
                  clear hP hD hS
                  clear H locs
                  intro v432 u
                  obtain ⟨n425, n426, n427, n428, n429, n430, n431⟩ := u
                  intro H locs hw (hP : va_P G vwCl [(a_0, .inr (12, [.int i_0, .ref a_1, .ref a_2, .ref a_3, .ref a_4, .ref a_5, .int i_1, .int n425, .int n426, .int n427, .int n428, .long n429, .int n430, .int n431, .int i_8, .int i_9, .ref a_6, .ref a_7, .ref a_8, .ref a_9, .ref a_10, .ref a_11, .ref a_12, .ref a_13, .ref a_14, .ref a_15, .ref a_16, .ref a_17, .ref a_18, .int i_10, .int i_11, .int i_12, .int i_13, .int i_14, .int i_15, .ref a_19, .int i_16, .ref a_20])), (a_5, .inl (cy 0, 600, .inl f_0)), (a_7, .inl (cy 1, 30, .inl (mm_g [i_17, i_18, i_19, i_20, i_21, i_22, i_23, i_24, i_25, i_26, i_27, i_28, i_29, i_30, i_31, i_32, i_33, i_34, i_35, i_36, i_37, i_38, i_39, i_40, i_41, i_42, i_43, i_44, i_45, i_46]))), (a_9, .inl (cy 1, 15, .inl f_1)), (a_10, .inl (cy 1, 1050, .inl z37_4_72))] H) (hD : va_D A [(a_0, .inr (12, [.int i_0, .ref a_1, .ref a_2, .ref a_3, .ref a_4, .ref a_5, .int i_1, .int n425, .int n426, .int n427, .int n428, .long n429, .int n430, .int n431, .int i_8, .int i_9, .ref a_6, .ref a_7, .ref a_8, .ref a_9, .ref a_10, .ref a_11, .ref a_12, .ref a_13, .ref a_14, .ref a_15, .ref a_16, .ref a_17, .ref a_18, .int i_10, .int i_11, .int i_12, .int i_13, .int i_14, .int i_15, .ref a_19, .int i_16, .ref a_20])), (a_5, .inl (cy 0, 600, .inl f_0)), (a_7, .inl (cy 1, 30, .inl (mm_g [i_17, i_18, i_19, i_20, i_21, i_22, i_23, i_24, i_25, i_26, i_27, i_28, i_29, i_30, i_31, i_32, i_33, i_34, i_35, i_36, i_37, i_38, i_39, i_40, i_41, i_42, i_43, i_44, i_45, i_46]))), (a_9, .inl (cy 1, 15, .inl f_1)), (a_10, .inl (cy 1, 1050, .inl z37_4_72))]) hS
                  obtain ⟨w433, w434, w435, w436, w437, w438, w439, w440, w441, hw⟩ := hw
                  replace w437 : (n427 : Int32).toInt ≤ (n425 : Int32).toInt := w437
                  replace w438 : (n425 : Int32).toInt ≤ (i_1 : Int32).toInt := w438
                  replace w439 : mm_tk n426 n427 n425 := w439
                  replace w440 : (n407 : Int32).toInt ≤ (n427 : Int32).toInt := w440
                  replace w441 : mm_b0 n410 n430 := w441
                  obtain ⟨w442, w443, w444, w445⟩ := hw
                  replace w443 : (v432 : Int32).toInt ≤ (i_43 : Int32).toInt := w443
                  replace w444 : mm_nq n430 v432 v412 := w444
                  replace w445 : mm_nq n430 v432 v412 := w445
                  refine lv_istore (lv' := [(6, .int v432), (5, .int v412), (4, .int 1), (3, .int v10), (2, .int v8), (1, .int v3), (0, .ref a_0)]) hx hb dX12_ruleLine_165 hl (by decide) rfl ?_
                  clear hl
                  clear ls
                  intro ls hl
                  refine lv_iload hx hb dX12_ruleLine_167 (lv_at hl 2 rfl) ?_
                  refine lv_if_eq (tgt := 183) hx hb dX12_ruleLine_169 (by decide) (fun c446 => ?_) (fun c446 => ?_)
                  · exact mm_eqN c446.symm mm_k0 mm_k1 (by decide)
                  · refine lv_aload_n hx hb dX12_ruleLine_172 rfl (lv_at hl 6 rfl) ?_
                    refine lv_iload hx hb dX12_ruleLine_173 (lv_at hl 1 rfl) ?_
                    refine lv_iload hx hb dX12_ruleLine_175 (lv_at hl 0 rfl) ?_
                    refine mm_fini (va_runV (As := [.int v412, .int v432]) (rest := []) ⟨hx, hb, hml, hown, hts⟩ (M62_X12_otherWord l G cy H.size a_0 v412 v432 i_0 a_1 a_2 a_3 a_4 a_5 i_1 n425 n426 n427 n428 n429 n430 n431 i_8 i_9 a_6 a_7 a_8 a_9 a_10 a_11 a_12 a_13 a_14 a_15 a_16 a_17 a_18 i_10 i_11 i_12 i_13 i_14 i_15 a_19 i_16 a_20 f_0 i_17 i_18 i_19 i_20 i_21 i_22 i_23 i_24 i_25 i_26 i_27 i_28 i_29 i_30 i_31 i_32 i_33 i_34 i_35 i_36 i_37 i_38 i_39 i_40 i_41 i_42 i_43 i_44 i_45 i_46 w422 w442 h0 w433 w434 w435 w436 h5 h6 h7 h8 h9 h10 h11 h12 h13 h14 h15 h16 h17 h18 h19 h20 h21 h22 h23 h24 h25 h26 h27 h28 h29 h30 h31 h32 (mm_wk h33 (by decide)) h34 h35 w437 w438 w439) (cwV 2 hts (mm_gV mm_w536 mm_w537 mm_w538 mm_w5 mm_w539) rfl rfl rfl hd_X12_otherWord ⟨by rw [hRf]; exact Nat.le_of_ble_eq_true rfl, by rw [hRl]; exact Nat.le_of_ble_eq_true rfl⟩) (mm_preV hK hZ hS hA hP hD [0, 1, 2] rfl rfl 0 rfl rfl rfl) rfl rfl hl.1 rfl (lv_room (Nat.le_of_ble_eq_true rfl)) dX12_ruleLine_177 ⟨by rw [hRc]; exact Nat.le_of_ble_eq_true rfl, by rw [hRs]; exact Nat.le_of_ble_eq_true rfl⟩) hP hD hS hA (fun u : Int32 × Int32 × Int32 × Int32 × Int64 × Int32 × Int32 => [(a_0, .inr (12, [.int i_0, .ref a_1, .ref a_2, .ref a_3, .ref a_4, .ref a_5, .int i_1, .int u.1, .int u.2.1, .int u.2.2.1, .int u.2.2.2.1, .long u.2.2.2.2.1, .int u.2.2.2.2.2.1, .int u.2.2.2.2.2.2, .int i_8, .int i_9, .ref a_6, .ref a_7, .ref a_8, .ref a_9, .ref a_10, .ref a_11, .ref a_12, .ref a_13, .ref a_14, .ref a_15, .ref a_16, .ref a_17, .ref a_18, .int i_10, .int i_11, .int i_12, .int i_13, .int i_14, .int i_15, .ref a_19, .int i_16, .ref a_20])), (a_5, .inl (cy 0, 600, .inl f_0)), (a_7, .inl (cy 1, 30, .inl (mm_g [i_17, i_18, i_19, i_20, i_21, i_22, i_23, i_24, i_25, i_26, i_27, i_28, i_29, i_30, i_31, i_32, i_33, i_34, i_35, i_36, i_37, i_38, i_39, i_40, i_41, i_42, i_43, i_44, i_45, i_46]))), (a_9, .inl (cy 1, 15, .inl f_1)), (a_10, .inl (cy 1, 1050, .inl z37_4_72))]) [0, 1, 2] [3, 4] (n := 5) (fun _ => rfl) (by decide +kernel) (by decide +kernel) rfl (fun _ => rfl) (wr := [(a_9, .inl (cy 1, 15, .inl f_1)), (a_10, .inl (cy 1, 1050, .inl z37_4_72))]) rfl (fun _ => rfl) (fun _ => @rfl _ ([a_0, a_5, a_7] : List Nat)) ?_
                    clear hP hD hS
                    clear H locs
                    intro v454 u
                    obtain ⟨n447, n448, n449, n450, n451, n452, n453⟩ := u
                    intro H locs hw (hP : va_P G vwCl [(a_0, .inr (12, [.int i_0, .ref a_1, .ref a_2, .ref a_3, .ref a_4, .ref a_5, .int i_1, .int n447, .int n448, .int n449, .int n450, .long n451, .int n452, .int n453, .int i_8, .int i_9, .ref a_6, .ref a_7, .ref a_8, .ref a_9, .ref a_10, .ref a_11, .ref a_12, .ref a_13, .ref a_14, .ref a_15, .ref a_16, .ref a_17, .ref a_18, .int i_10, .int i_11, .int i_12, .int i_13, .int i_14, .int i_15, .ref a_19, .int i_16, .ref a_20])), (a_5, .inl (cy 0, 600, .inl f_0)), (a_7, .inl (cy 1, 30, .inl (mm_g [i_17, i_18, i_19, i_20, i_21, i_22, i_23, i_24, i_25, i_26, i_27, i_28, i_29, i_30, i_31, i_32, i_33, i_34, i_35, i_36, i_37, i_38, i_39, i_40, i_41, i_42, i_43, i_44, i_45, i_46]))), (a_9, .inl (cy 1, 15, .inl f_1)), (a_10, .inl (cy 1, 1050, .inl z37_4_72))] H) (hD : va_D A [(a_0, .inr (12, [.int i_0, .ref a_1, .ref a_2, .ref a_3, .ref a_4, .ref a_5, .int i_1, .int n447, .int n448, .int n449, .int n450, .long n451, .int n452, .int n453, .int i_8, .int i_9, .ref a_6, .ref a_7, .ref a_8, .ref a_9, .ref a_10, .ref a_11, .ref a_12, .ref a_13, .ref a_14, .ref a_15, .ref a_16, .ref a_17, .ref a_18, .int i_10, .int i_11, .int i_12, .int i_13, .int i_14, .int i_15, .ref a_19, .int i_16, .ref a_20])), (a_5, .inl (cy 0, 600, .inl f_0)), (a_7, .inl (cy 1, 30, .inl (mm_g [i_17, i_18, i_19, i_20, i_21, i_22, i_23, i_24, i_25, i_26, i_27, i_28, i_29, i_30, i_31, i_32, i_33, i_34, i_35, i_36, i_37, i_38, i_39, i_40, i_41, i_42, i_43, i_44, i_45, i_46]))), (a_9, .inl (cy 1, 15, .inl f_1)), (a_10, .inl (cy 1, 1050, .inl z37_4_72))]) hS
                    obtain ⟨w455, w456, w457, w458, w459, w460, w461, w462, w463, hw⟩ := hw
                    replace w459 : (n449 : Int32).toInt ≤ (n447 : Int32).toInt := w459
                    replace w460 : (n447 : Int32).toInt ≤ (i_1 : Int32).toInt := w460
                    replace w461 : mm_tk n448 n449 n447 := w461
                    replace w462 : (n427 : Int32).toInt ≤ (n449 : Int32).toInt := w462
                    replace w463 : mm_b0 n430 n452 := w463
                    obtain ⟨w464, w465, w466, w467⟩ := hw
                    replace w465 : (v454 : Int32).toInt ≤ (i_43 : Int32).toInt := w465
                    replace w466 : mm_nq n452 v454 v412 := w466
                    replace w467 : mm_nq n452 v454 v432 := w467
                    refine lv_goto (tgt := 185) hx hb dX12_ruleLine_180 (by decide) ?_
                    refine lv_istore (lv' := [(7, .int v454), (6, .int v432), (5, .int v412), (4, .int 1), (3, .int v10), (2, .int v8), (1, .int v3), (0, .ref a_0)]) hx hb dX12_ruleLine_185 hl (by decide) rfl ?_
                    clear hl
                    clear ls
                    intro ls hl
                    refine lv_aload_n hx hb dX12_ruleLine_187 rfl (lv_at hl 7 rfl) ?_
                    refine va_get (D := G) (ci := 12) (v := .int n452) (C := RX12) (T := TX12) (N := 38) hx hb hts (mm_i inlX12) hown hK.1 hP 0 rfl rfl 12 (by decide) (mm_h hts mm_w436) (fun _ h9 => h9) rfl dX12_ruleLine_188 ?_
                    refine lv_if_eq (tgt := 195) hx hb dX12_ruleLine_191 (by decide) (fun c468 => ?_) (fun c468 => ?_)
                    · have q469 := mm_eqI (lo := 0) (hi := 0) c468 w458 mm_k0 (by decide)
                      have q470 : mm_rg n430 0 0 := mm_b0_d w463 q469 (by decide)
                      have q471 : mm_rg n410 0 0 := mm_b0_d w441 q470 (by decide)
                      have q472 : mm_rg i_6 0 0 := mm_b0_d w421 q471 (by decide)
                      refine lv_aload_n hx hb dX12_ruleLine_195 rfl (lv_at hl 7 rfl) ?_
                      refine va_get (D := G) (ci := 12) (v := .ref a_10) (C := RX12) (T := TX12) (N := 38) hx hb hts (mm_i inlX12) hown hK.1 hP 0 rfl rfl 20 (by decide) (mm_h hts mm_w152) (fun _ h9 => h9) rfl dX12_ruleLine_196 ?_
                      refine lv_iload_n hx hb dX12_ruleLine_199 rfl (lv_at hl 5 rfl) ?_
                      refine lv_iload hx hb dX12_ruleLine_200 (lv_at hl 2 rfl) ?_
                      refine lv_iadd hx hb dX12_ruleLine_202 ?_
                      refine lv_topi (fun v473 ev473 => ?_)
                      have rv473 : mm_rg v473 840 1049 := mm_add ev473 rv8 w422 (by decide) (by decide)
                      have tv473 := mm_addE ev473 rv8 w422 (by decide)
                      refine lv_iload hx hb dX12_ruleLine_203 (lv_at hl 1 rfl) ?_
                      refine va_iast hx hb hK.1 hP hD hS 4 1 rfl rfl (mm_in rv473 (by decide)) dX12_ruleLine_205 ?_
                      clear hP hD hS
                      clear H locs
                      obtain ⟨g474, eg474⟩ : ∃ z : Nat → Int32, z = upd z37_4_72 v473.toNatClampNeg v432 := ⟨_, rfl⟩
                      rw [← eg474]
                      intro H locs (hP : va_P G vwCl [(a_0, .inr (12, [.int i_0, .ref a_1, .ref a_2, .ref a_3, .ref a_4, .ref a_5, .int i_1, .int n447, .int n448, .int n449, .int n450, .long n451, .int n452, .int n453, .int i_8, .int i_9, .ref a_6, .ref a_7, .ref a_8, .ref a_9, .ref a_10, .ref a_11, .ref a_12, .ref a_13, .ref a_14, .ref a_15, .ref a_16, .ref a_17, .ref a_18, .int i_10, .int i_11, .int i_12, .int i_13, .int i_14, .int i_15, .ref a_19, .int i_16, .ref a_20])), (a_5, .inl (cy 0, 600, .inl f_0)), (a_7, .inl (cy 1, 30, .inl (mm_g [i_17, i_18, i_19, i_20, i_21, i_22, i_23, i_24, i_25, i_26, i_27, i_28, i_29, i_30, i_31, i_32, i_33, i_34, i_35, i_36, i_37, i_38, i_39, i_40, i_41, i_42, i_43, i_44, i_45, i_46]))), (a_9, .inl (cy 1, 15, .inl f_1)), (a_10, .inl (cy 1, 1050, .inl g474))] H) (hD : va_D A [(a_0, .inr (12, [.int i_0, .ref a_1, .ref a_2, .ref a_3, .ref a_4, .ref a_5, .int i_1, .int n447, .int n448, .int n449, .int n450, .long n451, .int n452, .int n453, .int i_8, .int i_9, .ref a_6, .ref a_7, .ref a_8, .ref a_9, .ref a_10, .ref a_11, .ref a_12, .ref a_13, .ref a_14, .ref a_15, .ref a_16, .ref a_17, .ref a_18, .int i_10, .int i_11, .int i_12, .int i_13, .int i_14, .int i_15, .ref a_19, .int i_16, .ref a_20])), (a_5, .inl (cy 0, 600, .inl f_0)), (a_7, .inl (cy 1, 30, .inl (mm_g [i_17, i_18, i_19, i_20, i_21, i_22, i_23, i_24, i_25, i_26, i_27, i_28, i_29, i_30, i_31, i_32, i_33, i_34, i_35, i_36, i_37, i_38, i_39, i_40, i_41, i_42, i_43, i_44, i_45, i_46]))), (a_9, .inl (cy 1, 15, .inl f_1)), (a_10, .inl (cy 1, 1050, .inl g474))]) hS
                      have rg474 : mm_ar g474 0 9 := by rw [eg474]; exact mm_ar_upd (mm_ar_wk rz37_4_72 (by decide)) (mm_wk w442 (by decide)) _
                      refine lv_aload_n hx hb dX12_ruleLine_206 rfl (lv_at hl 7 rfl) ?_
                      refine va_get (D := G) (ci := 12) (v := .ref a_10) (C := RX12) (T := TX12) (N := 38) hx hb hts (mm_i inlX12) hown hK.1 hP 0 rfl rfl 20 (by decide) (mm_h hts mm_w152) (fun _ h9 => h9) rfl dX12_ruleLine_207 ?_
                      refine lv_iload_n hx hb dX12_ruleLine_210 rfl (lv_at hl 5 rfl) ?_
                      refine lv_iload hx hb dX12_ruleLine_211 (lv_at hl 1 rfl) ?_
                      refine lv_iadd hx hb dX12_ruleLine_213 ?_
                      refine lv_topi (fun v475 ev475 => ?_)
                      have rv475 : mm_rg v475 840 1049 := mm_add ev475 rv8 w442 (by decide) (by decide)
                      have tv475 := mm_addE ev475 rv8 w442 (by decide)
                      refine lv_iload hx hb dX12_ruleLine_214 (lv_at hl 0 rfl) ?_
                      refine va_iast hx hb hK.1 hP hD hS 4 1 rfl rfl (mm_in rv475 (by decide)) dX12_ruleLine_216 ?_
                      clear hP hD hS
                      clear H locs
                      obtain ⟨g476, eg476⟩ : ∃ z : Nat → Int32, z = upd g474 v475.toNatClampNeg v454 := ⟨_, rfl⟩
                      rw [← eg476]
                      intro H locs (hP : va_P G vwCl [(a_0, .inr (12, [.int i_0, .ref a_1, .ref a_2, .ref a_3, .ref a_4, .ref a_5, .int i_1, .int n447, .int n448, .int n449, .int n450, .long n451, .int n452, .int n453, .int i_8, .int i_9, .ref a_6, .ref a_7, .ref a_8, .ref a_9, .ref a_10, .ref a_11, .ref a_12, .ref a_13, .ref a_14, .ref a_15, .ref a_16, .ref a_17, .ref a_18, .int i_10, .int i_11, .int i_12, .int i_13, .int i_14, .int i_15, .ref a_19, .int i_16, .ref a_20])), (a_5, .inl (cy 0, 600, .inl f_0)), (a_7, .inl (cy 1, 30, .inl (mm_g [i_17, i_18, i_19, i_20, i_21, i_22, i_23, i_24, i_25, i_26, i_27, i_28, i_29, i_30, i_31, i_32, i_33, i_34, i_35, i_36, i_37, i_38, i_39, i_40, i_41, i_42, i_43, i_44, i_45, i_46]))), (a_9, .inl (cy 1, 15, .inl f_1)), (a_10, .inl (cy 1, 1050, .inl g476))] H) (hD : va_D A [(a_0, .inr (12, [.int i_0, .ref a_1, .ref a_2, .ref a_3, .ref a_4, .ref a_5, .int i_1, .int n447, .int n448, .int n449, .int n450, .long n451, .int n452, .int n453, .int i_8, .int i_9, .ref a_6, .ref a_7, .ref a_8, .ref a_9, .ref a_10, .ref a_11, .ref a_12, .ref a_13, .ref a_14, .ref a_15, .ref a_16, .ref a_17, .ref a_18, .int i_10, .int i_11, .int i_12, .int i_13, .int i_14, .int i_15, .ref a_19, .int i_16, .ref a_20])), (a_5, .inl (cy 0, 600, .inl f_0)), (a_7, .inl (cy 1, 30, .inl (mm_g [i_17, i_18, i_19, i_20, i_21, i_22, i_23, i_24, i_25, i_26, i_27, i_28, i_29, i_30, i_31, i_32, i_33, i_34, i_35, i_36, i_37, i_38, i_39, i_40, i_41, i_42, i_43, i_44, i_45, i_46]))), (a_9, .inl (cy 1, 15, .inl f_1)), (a_10, .inl (cy 1, 1050, .inl g476))]) hS
                      have rg476 : mm_ar g476 0 9 := by rw [eg476]; exact mm_ar_upd (mm_ar_wk rg474 (by decide)) (mm_wk w464 (by decide)) _
                      refine lv_iload hx hb dX12_ruleLine_217 (lv_at hl 3 rfl) ?_
                      refine lv_if_eq (tgt := 233) hx hb dX12_ruleLine_219 (by decide) (fun c477 => ?_) (fun c477 => ?_)
                      · exact mm_eqN c477.symm mm_k0 mm_k1 (by decide)
                      · refine lv_aload_n hx hb dX12_ruleLine_222 rfl (lv_at hl 7 rfl) ?_
                        refine va_get (D := G) (ci := 12) (v := .ref a_10) (C := RX12) (T := TX12) (N := 38) hx hb hts (mm_i inlX12) hown hK.1 hP 0 rfl rfl 20 (by decide) (mm_h hts mm_w152) (fun _ h9 => h9) rfl dX12_ruleLine_223 ?_
                        refine lv_iload_n hx hb dX12_ruleLine_226 rfl (lv_at hl 5 rfl) ?_
                        refine lv_iload hx hb dX12_ruleLine_227 (lv_at hl 0 rfl) ?_
                        refine lv_iadd hx hb dX12_ruleLine_229 ?_
                        refine lv_topi (fun v478 ev478 => ?_)
                        have rv478 : mm_rg v478 840 1049 := mm_add ev478 rv8 w464 (by decide) (by decide)
                        have tv478 := mm_addE ev478 rv8 w464 (by decide)
                        refine lv_iload hx hb dX12_ruleLine_230 (lv_at hl 2 rfl) ?_
                        refine va_iast hx hb hK.1 hP hD hS 4 1 rfl rfl (mm_in rv478 (by decide)) dX12_ruleLine_232 ?_
                        clear hP hD hS
                        clear H locs
                        obtain ⟨g479, eg479⟩ : ∃ z : Nat → Int32, z = upd g476 v478.toNatClampNeg v412 := ⟨_, rfl⟩
                        rw [← eg479]
                        intro H locs (hP : va_P G vwCl [(a_0, .inr (12, [.int i_0, .ref a_1, .ref a_2, .ref a_3, .ref a_4, .ref a_5, .int i_1, .int n447, .int n448, .int n449, .int n450, .long n451, .int n452, .int n453, .int i_8, .int i_9, .ref a_6, .ref a_7, .ref a_8, .ref a_9, .ref a_10, .ref a_11, .ref a_12, .ref a_13, .ref a_14, .ref a_15, .ref a_16, .ref a_17, .ref a_18, .int i_10, .int i_11, .int i_12, .int i_13, .int i_14, .int i_15, .ref a_19, .int i_16, .ref a_20])), (a_5, .inl (cy 0, 600, .inl f_0)), (a_7, .inl (cy 1, 30, .inl (mm_g [i_17, i_18, i_19, i_20, i_21, i_22, i_23, i_24, i_25, i_26, i_27, i_28, i_29, i_30, i_31, i_32, i_33, i_34, i_35, i_36, i_37, i_38, i_39, i_40, i_41, i_42, i_43, i_44, i_45, i_46]))), (a_9, .inl (cy 1, 15, .inl f_1)), (a_10, .inl (cy 1, 1050, .inl g479))] H) (hD : va_D A [(a_0, .inr (12, [.int i_0, .ref a_1, .ref a_2, .ref a_3, .ref a_4, .ref a_5, .int i_1, .int n447, .int n448, .int n449, .int n450, .long n451, .int n452, .int n453, .int i_8, .int i_9, .ref a_6, .ref a_7, .ref a_8, .ref a_9, .ref a_10, .ref a_11, .ref a_12, .ref a_13, .ref a_14, .ref a_15, .ref a_16, .ref a_17, .ref a_18, .int i_10, .int i_11, .int i_12, .int i_13, .int i_14, .int i_15, .ref a_19, .int i_16, .ref a_20])), (a_5, .inl (cy 0, 600, .inl f_0)), (a_7, .inl (cy 1, 30, .inl (mm_g [i_17, i_18, i_19, i_20, i_21, i_22, i_23, i_24, i_25, i_26, i_27, i_28, i_29, i_30, i_31, i_32, i_33, i_34, i_35, i_36, i_37, i_38, i_39, i_40, i_41, i_42, i_43, i_44, i_45, i_46]))), (a_9, .inl (cy 1, 15, .inl f_1)), (a_10, .inl (cy 1, 1050, .inl g479))]) hS
                        have rg479 : mm_ar g479 0 9 := by rw [eg479]; exact mm_ar_upd (mm_ar_wk rg476 (by decide)) (mm_wk w422 (by decide)) _
                        refine lv_goto (tgt := 243) hx hb dX12_ruleLine_233 (by decide) ?_
                        refine lv_aload_n hx hb dX12_ruleLine_243 rfl (lv_at hl 7 rfl) ?_
                        refine va_get (D := G) (ci := 12) (v := .ref a_9) (C := RX12) (T := TX12) (N := 38) hx hb hts (mm_i inlX12) hown hK.1 hP 0 rfl rfl 19 (by decide) (mm_h hts mm_w151) (fun _ h9 => h9) rfl dX12_ruleLine_244 ?_
                        refine lv_iload_n hx hb dX12_ruleLine_247 rfl (lv_at hl 6 rfl) ?_
                        refine lv_dup2_11 hx hb dX12_ruleLine_248 rfl rfl ?_
                        refine va_iald hx hb hK.1 hP 3 1 rfl rfl (mm_in rv3 (by decide)) dX12_ruleLine_249 ?_
                        refine lv_topi (fun v480 ev480 => ?_)
                        have rv480 : mm_rg v480 0 7 := mm_eqv ev480 (h36 _)
                        have q481 : mm_rg v480 0 6 := mm_rq_ld h45 ev480 rv480 h33 (by have := tv3; have := tv2; omega) (by decide)
                        obtain rfl : v5 = v480 := ev5.trans ev480.symm
                        refine lv_iconst (v := 1) hx hb dX12_ruleLine_250 (by decide) ?_
                        refine lv_iadd hx hb dX12_ruleLine_251 ?_
                        refine lv_topi (fun v482 ev482 => ?_)
                        have rv482 : mm_rg v482 1 7 := mm_add ev482 q6 mm_k1 (by decide) (by decide)
                        have tv482 := mm_addEc ev482 q6 mm_k1 (by decide) (k := 1) (by decide)
                        refine va_iast hx hb hK.1 hP hD hS 3 1 rfl rfl (mm_in rv3 (by decide)) dX12_ruleLine_252 ?_
                        clear hP hD hS
                        clear H locs
                        obtain ⟨g483, eg483⟩ : ∃ z : Nat → Int32, z = upd f_1 v3.toNatClampNeg v482 := ⟨_, rfl⟩
                        rw [← eg483]
                        intro H locs (hP : va_P G vwCl [(a_0, .inr (12, [.int i_0, .ref a_1, .ref a_2, .ref a_3, .ref a_4, .ref a_5, .int i_1, .int n447, .int n448, .int n449, .int n450, .long n451, .int n452, .int n453, .int i_8, .int i_9, .ref a_6, .ref a_7, .ref a_8, .ref a_9, .ref a_10, .ref a_11, .ref a_12, .ref a_13, .ref a_14, .ref a_15, .ref a_16, .ref a_17, .ref a_18, .int i_10, .int i_11, .int i_12, .int i_13, .int i_14, .int i_15, .ref a_19, .int i_16, .ref a_20])), (a_5, .inl (cy 0, 600, .inl f_0)), (a_7, .inl (cy 1, 30, .inl (mm_g [i_17, i_18, i_19, i_20, i_21, i_22, i_23, i_24, i_25, i_26, i_27, i_28, i_29, i_30, i_31, i_32, i_33, i_34, i_35, i_36, i_37, i_38, i_39, i_40, i_41, i_42, i_43, i_44, i_45, i_46]))), (a_9, .inl (cy 1, 15, .inl g483)), (a_10, .inl (cy 1, 1050, .inl g479))] H) (hD : va_D A [(a_0, .inr (12, [.int i_0, .ref a_1, .ref a_2, .ref a_3, .ref a_4, .ref a_5, .int i_1, .int n447, .int n448, .int n449, .int n450, .long n451, .int n452, .int n453, .int i_8, .int i_9, .ref a_6, .ref a_7, .ref a_8, .ref a_9, .ref a_10, .ref a_11, .ref a_12, .ref a_13, .ref a_14, .ref a_15, .ref a_16, .ref a_17, .ref a_18, .int i_10, .int i_11, .int i_12, .int i_13, .int i_14, .int i_15, .ref a_19, .int i_16, .ref a_20])), (a_5, .inl (cy 0, 600, .inl f_0)), (a_7, .inl (cy 1, 30, .inl (mm_g [i_17, i_18, i_19, i_20, i_21, i_22, i_23, i_24, i_25, i_26, i_27, i_28, i_29, i_30, i_31, i_32, i_33, i_34, i_35, i_36, i_37, i_38, i_39, i_40, i_41, i_42, i_43, i_44, i_45, i_46]))), (a_9, .inl (cy 1, 15, .inl g483)), (a_10, .inl (cy 1, 1050, .inl g479))]) hS
                        have rg483 : mm_ar g483 0 7 := by rw [eg483]; exact mm_ar_upd (mm_ar_wk h36 (by decide)) (mm_wk rv482 (by decide)) _
                        have w484 : mm_rls g483 g479 0 i_19 i_20 := (mm_rls_fr h38 (mm_fr_u (mm_fr_r _ _) eg483 rv3 (by decide)) (mm_fr_u (mm_fr_u (mm_fr_u w73 eg474 rv473 (by decide)) eg476 rv475 (by decide)) eg479 rv478 (by decide)) (by decide))
                        have w485 : mm_rls g483 g479 1 i_25 i_26 := (mm_rls_fr h39 (mm_fr_u (mm_fr_r _ _) eg483 rv3 (by decide)) (mm_fr_u (mm_fr_u (mm_fr_u w73 eg474 rv473 (by decide)) eg476 rv475 (by decide)) eg479 rv478 (by decide)) (by decide))
                        have w486 : mm_rls g483 g479 2 i_31 i_32 := (mm_rls_fr h40 (mm_fr_u (mm_fr_r _ _) eg483 rv3 (by decide)) (mm_fr_u (mm_fr_u (mm_fr_u w73 eg474 rv473 (by decide)) eg476 rv475 (by decide)) eg479 rv478 (by decide)) (by decide))
                        have w487 : mm_rls g483 g479 3 i_37 i_38 := (mm_rls_fr h41 (mm_fr_u (mm_fr_r _ _) eg483 rv3 (by decide)) (mm_fr_u (mm_fr_u (mm_fr_u w73 eg474 rv473 (by decide)) eg476 rv475 (by decide)) eg479 rv478 (by decide)) (by decide))
                        have w488 : (i_4 : Int32).toInt ≤ (n449 : Int32).toInt := (by have := h42; have := w404; have := w420; have := w440; have := w462; omega)
                        have w489 : mm_rls g483 g479 4 i_43 i_44 := (mm_rls_rule h46 eg483 (by have := tv3; have := tv2; omega) ev5 tv482 (by have := tv8; have := tv7; have := tv4; omega) (mm_ag_u (mm_ag_u (mm_ag_u w74 eg474 tv473 w422 rv8 (by decide)) eg476 tv475 w442 rv8 (by decide)) eg479 tv478 w464 rv8 (by decide)) (mm_pmr_tn (mm_idk_w w75 q78 (by decide)) eg474 tv473 eg476 tv475 eg479 tv478 w423 w443 w465 (mm_nq_ne w444 q470 (by decide)) (mm_nq_ne w466 q469 (by decide)) (mm_nq_ne w467 q469 (by decide)) h32 rv8 w422 w442 w464 (by decide)) h33 q6 (by decide))
                        have w490 : mm_fr f_1 g483 12 := (mm_fr_u (mm_fr_r _ _) eg483 rv3 (by decide))
                        have w491 : mm_fr f_2 g479 840 := (mm_fr_u (mm_fr_u (mm_fr_u w73 eg474 rv473 (by decide)) eg476 rv475 (by decide)) eg479 rv478 (by decide))
                        subst hAe
                        rw [hQ]
                        exact W.vret hx hb hr (fun t ht hW => ⟨⟨(n447, n448, n449, n450, n451, n452, n453, g483, g479), rfl, ⟨w455, w456, w457, (mm_wk q469 (by decide)), rg483, rg479, w484, w485, w486, w487, w459, w460, w461, w488, w489, w490, w491⟩, by rw [ht]; exact hP, hK.warm hW, hD⟩, hS.F ht⟩) hS.2.2 dX12_ruleLine_253
                    · have q492 := mm_neL (lo := 1) (mm_ne c468) w458 mm_k0 (by decide) (by decide)
                      have w493 : mm_rls f_1 z37_4_72 0 i_19 i_20 := (mm_rls_fr h38 (mm_fr_r _ _) w73 (by decide))
                      have w494 : mm_rls f_1 z37_4_72 1 i_25 i_26 := (mm_rls_fr h39 (mm_fr_r _ _) w73 (by decide))
                      have w495 : mm_rls f_1 z37_4_72 2 i_31 i_32 := (mm_rls_fr h40 (mm_fr_r _ _) w73 (by decide))
                      have w496 : mm_rls f_1 z37_4_72 3 i_37 i_38 := (mm_rls_fr h41 (mm_fr_r _ _) w73 (by decide))
                      have w497 : (i_4 : Int32).toInt ≤ (n449 : Int32).toInt := (by have := h42; have := w404; have := w420; have := w440; have := w462; omega)
                      have w498 : mm_rls f_1 z37_4_72 4 i_43 i_44 := (mm_rls_beg h46 (by have := tv3; have := tv2; omega) ev5 (by have := tv8; have := tv7; have := tv4; omega) w74 h33 q6 (by decide))
                      have w499 : mm_fr f_1 f_1 12 := (mm_fr_r _ _)
                      subst hAe
                      rw [hQ]
                      exact W.vret hx hb hr (fun t ht hW => ⟨⟨(n447, n448, n449, n450, n451, n452, n453, f_1, z37_4_72), rfl, ⟨w455, w456, w457, (mm_wk q492 (by decide)), h36, rz37_4_72, w493, w494, w495, w496, w459, w460, w461, w497, w498, w499, w73⟩, by rw [ht]; exact hP, hK.warm hW, hD⟩, hS.F ht⟩) hS.2.2 dX12_ruleLine_194
              · exact mm_eqN c306.symm mm_k0 mm_k1 (by decide)
          · have q500 := mm_neL (lo := 1) (mm_ne c80) mm_k0 mm_k0 (by decide) (by decide)
            exact mm_no q500 (by decide)
        · refine lv_if_eq (tgt := 118) hx hb dX12_ruleLine_68 (by decide) (fun c501 => ?_) (fun c501 => ?_)
          · exact mm_eqN c501.symm mm_k0 mm_k1 (by decide)
          · refine lv_aload_n hx hb dX12_ruleLine_71 rfl (lv_at hl 4 rfl) ?_
            refine mm_finv (va_runV (As := []) (rest := []) ⟨hx, hb, hml, hown, hts⟩ (M22_X12_next l G cy H.size a_0 i_0 a_1 a_2 a_3 a_4 a_5 i_1 i_2 i_3 i_4 i_5 j_0 i_6 i_7 i_8 i_9 a_6 a_7 a_8 a_9 a_10 a_11 a_12 a_13 a_14 a_15 a_16 a_17 a_18 i_10 i_11 i_12 i_13 i_14 i_15 a_19 i_16 a_20 f_0 h0 h1 h2 h3 h5 h43) (cwV 0 hts (mm_gV mm_w451 mm_w452 mm_w453 mm_w5 mm_w454) rfl rfl rfl hd_X12_next ⟨by rw [hRf]; exact Nat.le_of_ble_eq_true rfl, by rw [hRl]; exact Nat.le_of_ble_eq_true rfl⟩) (mm_preV hK hZ hS hA hP hD [0, 1] rfl rfl 0 rfl rfl rfl) rfl rfl hl.1 rfl (lv_room (Nat.le_of_ble_eq_true rfl)) dX12_ruleLine_72 ⟨by rw [hRc]; exact Nat.le_of_ble_eq_true rfl, by rw [hRs]; exact Nat.le_of_ble_eq_true rfl⟩) hP hD hS hA (fun u : Int32 × Int32 × Int32 × Int32 × Int64 => [(a_0, .inr (12, [.int i_0, .ref a_1, .ref a_2, .ref a_3, .ref a_4, .ref a_5, .int i_1, .int u.1, .int u.2.1, .int u.2.2.1, .int u.2.2.2.1, .long u.2.2.2.2, .int i_6, .int i_7, .int i_8, .int i_9, .ref a_6, .ref a_7, .ref a_8, .ref a_9, .ref a_10, .ref a_11, .ref a_12, .ref a_13, .ref a_14, .ref a_15, .ref a_16, .ref a_17, .ref a_18, .int i_10, .int i_11, .int i_12, .int i_13, .int i_14, .int i_15, .ref a_19, .int i_16, .ref a_20])), (a_5, .inl (cy 0, 600, .inl f_0)), (a_7, .inl (cy 1, 30, .inl (mm_g [i_17, i_18, i_19, i_20, i_21, i_22, i_23, i_24, i_25, i_26, i_27, i_28, i_29, i_30, i_31, i_32, i_33, i_34, i_35, i_36, i_37, i_38, i_39, i_40, i_41, i_42, i_43, i_44, i_45, i_46]))), (a_9, .inl (cy 1, 15, .inl f_1)), (a_10, .inl (cy 1, 1050, .inl z37_4_72))]) [0, 1] [2, 3, 4] (n := 5) (fun _ => rfl) (by decide +kernel) (by decide +kernel) rfl (fun _ => rfl) (wr := [(a_7, .inl (cy 1, 30, .inl (mm_g [i_17, i_18, i_19, i_20, i_21, i_22, i_23, i_24, i_25, i_26, i_27, i_28, i_29, i_30, i_31, i_32, i_33, i_34, i_35, i_36, i_37, i_38, i_39, i_40, i_41, i_42, i_43, i_44, i_45, i_46]))), (a_9, .inl (cy 1, 15, .inl f_1)), (a_10, .inl (cy 1, 1050, .inl z37_4_72))]) rfl (fun _ => rfl) (fun _ => rfl) ?_
            clear hP hD hS
            clear H locs
            intro u
            obtain ⟨n502, n503, n504, n505, n506⟩ := u
            intro H locs hw (hP : va_P G vwCl [(a_0, .inr (12, [.int i_0, .ref a_1, .ref a_2, .ref a_3, .ref a_4, .ref a_5, .int i_1, .int n502, .int n503, .int n504, .int n505, .long n506, .int i_6, .int i_7, .int i_8, .int i_9, .ref a_6, .ref a_7, .ref a_8, .ref a_9, .ref a_10, .ref a_11, .ref a_12, .ref a_13, .ref a_14, .ref a_15, .ref a_16, .ref a_17, .ref a_18, .int i_10, .int i_11, .int i_12, .int i_13, .int i_14, .int i_15, .ref a_19, .int i_16, .ref a_20])), (a_5, .inl (cy 0, 600, .inl f_0)), (a_7, .inl (cy 1, 30, .inl (mm_g [i_17, i_18, i_19, i_20, i_21, i_22, i_23, i_24, i_25, i_26, i_27, i_28, i_29, i_30, i_31, i_32, i_33, i_34, i_35, i_36, i_37, i_38, i_39, i_40, i_41, i_42, i_43, i_44, i_45, i_46]))), (a_9, .inl (cy 1, 15, .inl f_1)), (a_10, .inl (cy 1, 1050, .inl z37_4_72))] H) (hD : va_D A [(a_0, .inr (12, [.int i_0, .ref a_1, .ref a_2, .ref a_3, .ref a_4, .ref a_5, .int i_1, .int n502, .int n503, .int n504, .int n505, .long n506, .int i_6, .int i_7, .int i_8, .int i_9, .ref a_6, .ref a_7, .ref a_8, .ref a_9, .ref a_10, .ref a_11, .ref a_12, .ref a_13, .ref a_14, .ref a_15, .ref a_16, .ref a_17, .ref a_18, .int i_10, .int i_11, .int i_12, .int i_13, .int i_14, .int i_15, .ref a_19, .int i_16, .ref a_20])), (a_5, .inl (cy 0, 600, .inl f_0)), (a_7, .inl (cy 1, 30, .inl (mm_g [i_17, i_18, i_19, i_20, i_21, i_22, i_23, i_24, i_25, i_26, i_27, i_28, i_29, i_30, i_31, i_32, i_33, i_34, i_35, i_36, i_37, i_38, i_39, i_40, i_41, i_42, i_43, i_44, i_45, i_46]))), (a_9, .inl (cy 1, 15, .inl f_1)), (a_10, .inl (cy 1, 1050, .inl z37_4_72))]) hS
            obtain ⟨w507, w508, w509, w510, w511, w512, w513⟩ := hw
            replace w510 : (n504 : Int32).toInt ≤ (n502 : Int32).toInt := w510
            replace w511 : (n502 : Int32).toInt ≤ (i_1 : Int32).toInt := w511
            replace w512 : mm_tk n503 n504 n502 := w512
            replace w513 : (i_2 : Int32).toInt ≤ (n504 : Int32).toInt := w513
            refine lv_aload_n hx hb dX12_ruleLine_75 rfl (lv_at hl 4 rfl) ?_
            refine lv_iconst (v := 1) hx hb dX12_ruleLine_76 (by decide) ?_
            refine lv_bipush (v := 9) hx hb dX12_ruleLine_77 (by decide) ?_
            refine mm_fini (va_runV (As := [.int 1, .int 9]) (rest := []) ⟨hx, hb, hml, hown, hts⟩ (M64_X12_number l G cy H.size a_0 i_0 a_1 a_2 a_3 a_4 a_5 i_1 n502 n503 n504 n505 n506 i_6 i_7 i_8 i_9 a_6 a_7 a_8 a_9 a_10 a_11 a_12 a_13 a_14 a_15 a_16 a_17 a_18 i_10 i_11 i_12 i_13 i_14 i_15 a_19 i_16 a_20 f_0 h0 w507 w508 w509 h4 h5 w510 w511 w512) (cwV 2 hts (mm_gV mm_w491 mm_w492 mm_w493 mm_w5 mm_w494) rfl rfl rfl hd_X12_number ⟨by rw [hRf]; exact Nat.le_of_ble_eq_true rfl, by rw [hRl]; exact Nat.le_of_ble_eq_true rfl⟩) (mm_preV hK hZ hS hA hP hD [0, 1] rfl rfl 0 rfl rfl rfl) rfl rfl hl.1 rfl (lv_room (Nat.le_of_ble_eq_true rfl)) dX12_ruleLine_79 ⟨by rw [hRc]; exact Nat.le_of_ble_eq_true rfl, by rw [hRs]; exact Nat.le_of_ble_eq_true rfl⟩) hP hD hS hA (fun u : Int32 × Int32 × Int32 × Int32 × Int64 × Int32 × Int32 => [(a_0, .inr (12, [.int i_0, .ref a_1, .ref a_2, .ref a_3, .ref a_4, .ref a_5, .int i_1, .int u.1, .int u.2.1, .int u.2.2.1, .int u.2.2.2.1, .long u.2.2.2.2.1, .int u.2.2.2.2.2.1, .int u.2.2.2.2.2.2, .int i_8, .int i_9, .ref a_6, .ref a_7, .ref a_8, .ref a_9, .ref a_10, .ref a_11, .ref a_12, .ref a_13, .ref a_14, .ref a_15, .ref a_16, .ref a_17, .ref a_18, .int i_10, .int i_11, .int i_12, .int i_13, .int i_14, .int i_15, .ref a_19, .int i_16, .ref a_20])), (a_5, .inl (cy 0, 600, .inl f_0)), (a_7, .inl (cy 1, 30, .inl (mm_g [i_17, i_18, i_19, i_20, i_21, i_22, i_23, i_24, i_25, i_26, i_27, i_28, i_29, i_30, i_31, i_32, i_33, i_34, i_35, i_36, i_37, i_38, i_39, i_40, i_41, i_42, i_43, i_44, i_45, i_46]))), (a_9, .inl (cy 1, 15, .inl f_1)), (a_10, .inl (cy 1, 1050, .inl z37_4_72))]) [0, 1] [2, 3, 4] (n := 5) (fun _ => rfl) (by decide +kernel) (by decide +kernel) rfl (fun _ => rfl) (wr := [(a_7, .inl (cy 1, 30, .inl (mm_g [i_17, i_18, i_19, i_20, i_21, i_22, i_23, i_24, i_25, i_26, i_27, i_28, i_29, i_30, i_31, i_32, i_33, i_34, i_35, i_36, i_37, i_38, i_39, i_40, i_41, i_42, i_43, i_44, i_45, i_46]))), (a_9, .inl (cy 1, 15, .inl f_1)), (a_10, .inl (cy 1, 1050, .inl z37_4_72))]) rfl (fun _ => rfl) (fun _ => rfl) ?_
            clear hP hD hS
            clear H locs
            intro v521 u
            obtain ⟨n514, n515, n516, n517, n518, n519, n520⟩ := u
            intro H locs hw (hP : va_P G vwCl [(a_0, .inr (12, [.int i_0, .ref a_1, .ref a_2, .ref a_3, .ref a_4, .ref a_5, .int i_1, .int n514, .int n515, .int n516, .int n517, .long n518, .int n519, .int n520, .int i_8, .int i_9, .ref a_6, .ref a_7, .ref a_8, .ref a_9, .ref a_10, .ref a_11, .ref a_12, .ref a_13, .ref a_14, .ref a_15, .ref a_16, .ref a_17, .ref a_18, .int i_10, .int i_11, .int i_12, .int i_13, .int i_14, .int i_15, .ref a_19, .int i_16, .ref a_20])), (a_5, .inl (cy 0, 600, .inl f_0)), (a_7, .inl (cy 1, 30, .inl (mm_g [i_17, i_18, i_19, i_20, i_21, i_22, i_23, i_24, i_25, i_26, i_27, i_28, i_29, i_30, i_31, i_32, i_33, i_34, i_35, i_36, i_37, i_38, i_39, i_40, i_41, i_42, i_43, i_44, i_45, i_46]))), (a_9, .inl (cy 1, 15, .inl f_1)), (a_10, .inl (cy 1, 1050, .inl z37_4_72))] H) (hD : va_D A [(a_0, .inr (12, [.int i_0, .ref a_1, .ref a_2, .ref a_3, .ref a_4, .ref a_5, .int i_1, .int n514, .int n515, .int n516, .int n517, .long n518, .int n519, .int n520, .int i_8, .int i_9, .ref a_6, .ref a_7, .ref a_8, .ref a_9, .ref a_10, .ref a_11, .ref a_12, .ref a_13, .ref a_14, .ref a_15, .ref a_16, .ref a_17, .ref a_18, .int i_10, .int i_11, .int i_12, .int i_13, .int i_14, .int i_15, .ref a_19, .int i_16, .ref a_20])), (a_5, .inl (cy 0, 600, .inl f_0)), (a_7, .inl (cy 1, 30, .inl (mm_g [i_17, i_18, i_19, i_20, i_21, i_22, i_23, i_24, i_25, i_26, i_27, i_28, i_29, i_30, i_31, i_32, i_33, i_34, i_35, i_36, i_37, i_38, i_39, i_40, i_41, i_42, i_43, i_44, i_45, i_46]))), (a_9, .inl (cy 1, 15, .inl f_1)), (a_10, .inl (cy 1, 1050, .inl z37_4_72))]) hS
            obtain ⟨w522, w523, w524, w525, w526, w527, w528, w529, w530, hw⟩ := hw
            replace w526 : (n516 : Int32).toInt ≤ (n514 : Int32).toInt := w526
            replace w527 : (n514 : Int32).toInt ≤ (i_1 : Int32).toInt := w527
            replace w528 : mm_tk n515 n516 n514 := w528
            replace w529 : (n504 : Int32).toInt ≤ (n516 : Int32).toInt := w529
            replace w530 : mm_b0 i_6 n519 := w530
            obtain ⟨w531, w532, w533⟩ := hw
            replace w532 : (v521 : Int32).toInt ≤ (9 : Int32).toInt := w532
            replace w533 : mm_nv n519 v521 n503 n505 := w533
            refine lv_istore (lv' := [(4, .int v521), (3, .int v10), (2, .int v8), (1, .int v3), (0, .ref a_0)]) hx hb dX12_ruleLine_82 hl (by decide) rfl ?_
            clear hl
            clear ls
            intro ls hl
            refine lv_iconst (v := 0) hx hb dX12_ruleLine_84 (by decide) ?_
            refine lv_istore (lv' := [(5, .int 0), (4, .int v521), (3, .int v10), (2, .int v8), (1, .int v3), (0, .ref a_0)]) hx hb dX12_ruleLine_85 hl (by decide) rfl ?_
            clear hl
            clear ls
            intro ls hl
            have L87_640 : ∀ (n : Nat) (x87_5_636 : Int32) (z87_4_637 : Nat → Int32), mm_rg x87_5_636 0 10 → mm_ar z87_4_637 0 9 → mm_fr f_2 z87_4_637 840 → mm_ag f_2 z87_4_637 v8 → mm_shk z87_4_637 v8 v521 v10 x87_5_636 → (10 - x87_5_636.toInt).toNat < n → ∀ (H : Heap) (locs : List Loc), va_P G vwCl [(a_0, .inr (12, [.int i_0, .ref a_1, .ref a_2, .ref a_3, .ref a_4, .ref a_5, .int i_1, .int n514, .int n515, .int n516, .int n517, .long n518, .int n519, .int n520, .int i_8, .int i_9, .ref a_6, .ref a_7, .ref a_8, .ref a_9, .ref a_10, .ref a_11, .ref a_12, .ref a_13, .ref a_14, .ref a_15, .ref a_16, .ref a_17, .ref a_18, .int i_10, .int i_11, .int i_12, .int i_13, .int i_14, .int i_15, .ref a_19, .int i_16, .ref a_20])), (a_5, .inl (cy 0, 600, .inl f_0)), (a_7, .inl (cy 1, 30, .inl (mm_g [i_17, i_18, i_19, i_20, i_21, i_22, i_23, i_24, i_25, i_26, i_27, i_28, i_29, i_30, i_31, i_32, i_33, i_34, i_35, i_36, i_37, i_38, i_39, i_40, i_41, i_42, i_43, i_44, i_45, i_46]))), (a_9, .inl (cy 1, 15, .inl f_1)), (a_10, .inl (cy 1, 1050, .inl z87_4_637))] H → va_D A [(a_0, .inr (12, [.int i_0, .ref a_1, .ref a_2, .ref a_3, .ref a_4, .ref a_5, .int i_1, .int n514, .int n515, .int n516, .int n517, .long n518, .int n519, .int n520, .int i_8, .int i_9, .ref a_6, .ref a_7, .ref a_8, .ref a_9, .ref a_10, .ref a_11, .ref a_12, .ref a_13, .ref a_14, .ref a_15, .ref a_16, .ref a_17, .ref a_18, .int i_10, .int i_11, .int i_12, .int i_13, .int i_14, .int i_15, .ref a_19, .int i_16, .ref a_20])), (a_5, .inl (cy 0, 600, .inl f_0)), (a_7, .inl (cy 1, 30, .inl (mm_g [i_17, i_18, i_19, i_20, i_21, i_22, i_23, i_24, i_25, i_26, i_27, i_28, i_29, i_30, i_31, i_32, i_33, i_34, i_35, i_36, i_37, i_38, i_39, i_40, i_41, i_42, i_43, i_44, i_45, i_46]))), (a_9, .inl (cy 1, 15, .inl f_1)), (a_10, .inl (cy 1, 1050, .inl z87_4_637))] → va_S A s.heap H locs → ∀ (ls : Array Slot), lv_has ls 8 [(5, .int x87_5_636), (4, .int v521), (3, .int v10), (2, .int v8), (1, .int v3), (0, .ref a_0)] → W p l e R s m args below meth c H locs 0 0 Q (F0 m 87 ls []) := by
              intro n
              induction n with
              | zero => intro x87_5_636 z87_4_637 rx87_5_636 rz87_4_637 w638 w639 w640 hm; exact absurd hm (Nat.not_lt_zero _)
              | succ n ih87 =>
                intro x87_5_636 z87_4_637 rx87_5_636 rz87_4_637 w638 w639 w640 hm87 H locs hP hD hS ls hl
                refine lv_iload hx hb dX12_ruleLine_87 (lv_at hl 0 rfl) ?_
                refine lv_iload_n hx hb dX12_ruleLine_89 rfl (lv_at hl 2 rfl) ?_
                refine lv_icmp_ge (tgt := 115) hx hb dX12_ruleLine_90 (by decide) (fun c642 => ?_) (fun c642 => ?_)
                · have q643 := mm_leR (mm_le c642) rv10 rx87_5_636
                  refine lv_goto (tgt := 243) hx hb dX12_ruleLine_115 (by decide) ?_
                  refine lv_aload_n hx hb dX12_ruleLine_243 rfl (lv_at hl 5 rfl) ?_
                  refine va_get (D := G) (ci := 12) (v := .ref a_9) (C := RX12) (T := TX12) (N := 38) hx hb hts (mm_i inlX12) hown hK.1 hP 0 rfl rfl 19 (by decide) (mm_h hts mm_w151) (fun _ h9 => h9) rfl dX12_ruleLine_244 ?_
                  refine lv_iload_n hx hb dX12_ruleLine_247 rfl (lv_at hl 4 rfl) ?_
                  refine lv_dup2_11 hx hb dX12_ruleLine_248 rfl rfl ?_
                  refine va_iald hx hb hK.1 hP 3 1 rfl rfl (mm_in rv3 (by decide)) dX12_ruleLine_249 ?_
                  refine lv_topi (fun v644 ev644 => ?_)
                  have rv644 : mm_rg v644 0 7 := mm_eqv ev644 (h36 _)
                  have q645 : mm_rg v644 0 6 := mm_rq_ld h45 ev644 rv644 h33 (by have := tv3; have := tv2; omega) (by decide)
                  obtain rfl : v5 = v644 := ev5.trans ev644.symm
                  refine lv_iconst (v := 1) hx hb dX12_ruleLine_250 (by decide) ?_
                  refine lv_iadd hx hb dX12_ruleLine_251 ?_
                  refine lv_topi (fun v646 ev646 => ?_)
                  have rv646 : mm_rg v646 1 7 := mm_add ev646 q6 mm_k1 (by decide) (by decide)
                  have tv646 := mm_addEc ev646 q6 mm_k1 (by decide) (k := 1) (by decide)
                  refine va_iast hx hb hK.1 hP hD hS 3 1 rfl rfl (mm_in rv3 (by decide)) dX12_ruleLine_252 ?_
                  clear hP hD hS
                  clear H locs
                  obtain ⟨g647, eg647⟩ : ∃ z : Nat → Int32, z = upd f_1 v3.toNatClampNeg v646 := ⟨_, rfl⟩
                  rw [← eg647]
                  intro H locs (hP : va_P G vwCl [(a_0, .inr (12, [.int i_0, .ref a_1, .ref a_2, .ref a_3, .ref a_4, .ref a_5, .int i_1, .int n514, .int n515, .int n516, .int n517, .long n518, .int n519, .int n520, .int i_8, .int i_9, .ref a_6, .ref a_7, .ref a_8, .ref a_9, .ref a_10, .ref a_11, .ref a_12, .ref a_13, .ref a_14, .ref a_15, .ref a_16, .ref a_17, .ref a_18, .int i_10, .int i_11, .int i_12, .int i_13, .int i_14, .int i_15, .ref a_19, .int i_16, .ref a_20])), (a_5, .inl (cy 0, 600, .inl f_0)), (a_7, .inl (cy 1, 30, .inl (mm_g [i_17, i_18, i_19, i_20, i_21, i_22, i_23, i_24, i_25, i_26, i_27, i_28, i_29, i_30, i_31, i_32, i_33, i_34, i_35, i_36, i_37, i_38, i_39, i_40, i_41, i_42, i_43, i_44, i_45, i_46]))), (a_9, .inl (cy 1, 15, .inl g647)), (a_10, .inl (cy 1, 1050, .inl z87_4_637))] H) (hD : va_D A [(a_0, .inr (12, [.int i_0, .ref a_1, .ref a_2, .ref a_3, .ref a_4, .ref a_5, .int i_1, .int n514, .int n515, .int n516, .int n517, .long n518, .int n519, .int n520, .int i_8, .int i_9, .ref a_6, .ref a_7, .ref a_8, .ref a_9, .ref a_10, .ref a_11, .ref a_12, .ref a_13, .ref a_14, .ref a_15, .ref a_16, .ref a_17, .ref a_18, .int i_10, .int i_11, .int i_12, .int i_13, .int i_14, .int i_15, .ref a_19, .int i_16, .ref a_20])), (a_5, .inl (cy 0, 600, .inl f_0)), (a_7, .inl (cy 1, 30, .inl (mm_g [i_17, i_18, i_19, i_20, i_21, i_22, i_23, i_24, i_25, i_26, i_27, i_28, i_29, i_30, i_31, i_32, i_33, i_34, i_35, i_36, i_37, i_38, i_39, i_40, i_41, i_42, i_43, i_44, i_45, i_46]))), (a_9, .inl (cy 1, 15, .inl g647)), (a_10, .inl (cy 1, 1050, .inl z87_4_637))]) hS
                  have rg647 : mm_ar g647 0 7 := by rw [eg647]; exact mm_ar_upd (mm_ar_wk h36 (by decide)) (mm_wk rv646 (by decide)) _
                  have w648 : mm_rls g647 z87_4_637 0 i_19 i_20 := (mm_rls_fr h38 (mm_fr_u (mm_fr_r _ _) eg647 rv3 (by decide)) w638 (by decide))
                  have w649 : mm_rls g647 z87_4_637 1 i_25 i_26 := (mm_rls_fr h39 (mm_fr_u (mm_fr_r _ _) eg647 rv3 (by decide)) w638 (by decide))
                  have w650 : mm_rls g647 z87_4_637 2 i_31 i_32 := (mm_rls_fr h40 (mm_fr_u (mm_fr_r _ _) eg647 rv3 (by decide)) w638 (by decide))
                  have w651 : mm_rls g647 z87_4_637 3 i_37 i_38 := (mm_rls_fr h41 (mm_fr_u (mm_fr_r _ _) eg647 rv3 (by decide)) w638 (by decide))
                  have w652 : (i_4 : Int32).toInt ≤ (n516 : Int32).toInt := (by have := h42; have := w513; have := w529; omega)
                  have w653 : mm_rls g647 z87_4_637 4 i_43 i_44 := (mm_rls_rule h46 eg647 (by have := tv3; have := tv2; omega) ev5 tv646 (by have := tv8; have := tv7; have := tv4; omega) w639 (mm_pmr_sh w640 tv10 (mm_le c642) h32 w531 rv8) h33 q6 (by decide))
                  have w654 : mm_fr f_1 g647 12 := (mm_fr_u (mm_fr_r _ _) eg647 rv3 (by decide))
                  subst hAe
                  rw [hQ]
                  exact W.vret hx hb hr (fun t ht hW => ⟨⟨(n514, n515, n516, n517, n518, n519, n520, g647, z87_4_637), rfl, ⟨w522, w523, w524, w525, rg647, rz87_4_637, w648, w649, w650, w651, w526, w527, w528, w652, w653, w654, w638⟩, by rw [ht]; exact hP, hK.warm hW, hD⟩, hS.F ht⟩) hS.2.2 dX12_ruleLine_253
                · have q655 := mm_ltL (h := 9) (mm_nle c642) rx87_5_636 rv10 (by decide)
                  refine lv_aload_n hx hb dX12_ruleLine_93 rfl (lv_at hl 5 rfl) ?_
                  refine va_get (D := G) (ci := 12) (v := .ref a_10) (C := RX12) (T := TX12) (N := 38) hx hb hts (mm_i inlX12) hown hK.1 hP 0 rfl rfl 20 (by decide) (mm_h hts mm_w152) (fun _ h9 => h9) rfl dX12_ruleLine_94 ?_
                  refine lv_iload_n hx hb dX12_ruleLine_97 rfl (lv_at hl 3 rfl) ?_
                  refine lv_iload hx hb dX12_ruleLine_98 (lv_at hl 0 rfl) ?_
                  refine lv_iadd hx hb dX12_ruleLine_100 ?_
                  refine lv_topi (fun v656 ev656 => ?_)
                  have rv656 : mm_rg v656 840 1049 := mm_add ev656 rv8 q655 (by decide) (by decide)
                  have tv656 := mm_addE ev656 rv8 q655 (by decide)
                  refine lv_iload hx hb dX12_ruleLine_101 (lv_at hl 0 rfl) ?_
                  refine lv_iload hx hb dX12_ruleLine_103 (lv_at hl 1 rfl) ?_
                  refine lv_iadd hx hb dX12_ruleLine_105 ?_
                  refine lv_topi (fun v657 ev657 => ?_)
                  have rv657 : mm_rg v657 1 18 := mm_add ev657 q655 w531 (by decide) (by decide)
                  have tv657 := mm_addE ev657 q655 w531 (by decide)
                  refine lv_iload_n hx hb dX12_ruleLine_106 rfl (lv_at hl 2 rfl) ?_
                  refine lv_irem hx hb dX12_ruleLine_107 (mm_nz rv10 (by decide)) ?_
                  refine lv_topi (fun v658 ev658 => ?_)
                  have rv658 : mm_rg v658 0 9 := mm_rem ev658 rv657 rv10 (by decide) (by decide)
                  refine va_iast hx hb hK.1 hP hD hS 4 1 rfl rfl (mm_in rv656 (by decide)) dX12_ruleLine_108 ?_
                  clear hP hD hS
                  clear H locs
                  obtain ⟨g659, eg659⟩ : ∃ z : Nat → Int32, z = upd z87_4_637 v656.toNatClampNeg v658 := ⟨_, rfl⟩
                  rw [← eg659]
                  intro H locs (hP : va_P G vwCl [(a_0, .inr (12, [.int i_0, .ref a_1, .ref a_2, .ref a_3, .ref a_4, .ref a_5, .int i_1, .int n514, .int n515, .int n516, .int n517, .long n518, .int n519, .int n520, .int i_8, .int i_9, .ref a_6, .ref a_7, .ref a_8, .ref a_9, .ref a_10, .ref a_11, .ref a_12, .ref a_13, .ref a_14, .ref a_15, .ref a_16, .ref a_17, .ref a_18, .int i_10, .int i_11, .int i_12, .int i_13, .int i_14, .int i_15, .ref a_19, .int i_16, .ref a_20])), (a_5, .inl (cy 0, 600, .inl f_0)), (a_7, .inl (cy 1, 30, .inl (mm_g [i_17, i_18, i_19, i_20, i_21, i_22, i_23, i_24, i_25, i_26, i_27, i_28, i_29, i_30, i_31, i_32, i_33, i_34, i_35, i_36, i_37, i_38, i_39, i_40, i_41, i_42, i_43, i_44, i_45, i_46]))), (a_9, .inl (cy 1, 15, .inl f_1)), (a_10, .inl (cy 1, 1050, .inl g659))] H) (hD : va_D A [(a_0, .inr (12, [.int i_0, .ref a_1, .ref a_2, .ref a_3, .ref a_4, .ref a_5, .int i_1, .int n514, .int n515, .int n516, .int n517, .long n518, .int n519, .int n520, .int i_8, .int i_9, .ref a_6, .ref a_7, .ref a_8, .ref a_9, .ref a_10, .ref a_11, .ref a_12, .ref a_13, .ref a_14, .ref a_15, .ref a_16, .ref a_17, .ref a_18, .int i_10, .int i_11, .int i_12, .int i_13, .int i_14, .int i_15, .ref a_19, .int i_16, .ref a_20])), (a_5, .inl (cy 0, 600, .inl f_0)), (a_7, .inl (cy 1, 30, .inl (mm_g [i_17, i_18, i_19, i_20, i_21, i_22, i_23, i_24, i_25, i_26, i_27, i_28, i_29, i_30, i_31, i_32, i_33, i_34, i_35, i_36, i_37, i_38, i_39, i_40, i_41, i_42, i_43, i_44, i_45, i_46]))), (a_9, .inl (cy 1, 15, .inl f_1)), (a_10, .inl (cy 1, 1050, .inl g659))]) hS
                  have rg659 : mm_ar g659 0 9 := by rw [eg659]; exact mm_ar_upd (mm_ar_wk rz87_4_637 (by decide)) (mm_wk rv658 (by decide)) _
                  obtain ⟨v660, ev660⟩ : ∃ y : Int32, y = x87_5_636 + 1 := ⟨_, rfl⟩
                  refine lv_iinc (v := v660) (lv' := [(5, .int v660), (4, .int v521), (3, .int v10), (2, .int v8), (1, .int v3), (0, .ref a_0)]) hx hb dX12_ruleLine_109 hl (k := 0) rfl (by rw [ev660]; rfl) (by decide) rfl ?_
                  clear hl
                  clear ls
                  intro ls hl
                  have rv660 : mm_rg v660 1 10 := mm_add ev660 q655 mm_k1 (by decide) (by decide)
                  have tv660 := mm_addEc ev660 q655 mm_k1 (by decide) (k := 1) (by decide)
                  refine lv_goto (tgt := 87) hx hb dX12_ruleLine_112 (by decide) ?_
                  exact ih87 v660 g659 (mm_wk rv660 (by decide)) rg659 (mm_fr_u w638 eg659 rv656 (by decide)) (mm_ag_u w639 eg659 tv656 q655 rv8 (by decide)) (mm_shk_s w640 tv660 eg659 tv656 q655 rv8 ev658 tv657 rv657 rv10 w531 (by decide)) (mm_mu hm87 tv660 (by decide) (rv660).2 (by decide)) H locs hP hD hS ls (lv_sub hl [0, 1, 2, 3, 4, 5] rfl)
            exact L87_640 _ 0 z37_4_72 (mm_wk mm_k0 (by decide)) rz37_4_72 w73 w74 (mm_shk_0 _ _ _ _) (Nat.lt_succ_self _) H locs hP hD hS ls (lv_sub hl [0, 1, 2, 3, 4, 5] rfl)
      · have q661 := mm_ltL (h := 9) (mm_nle c77) rx37_4_71 mm_k10 (by decide)
        refine lv_aload_n hx hb dX12_ruleLine_44 rfl (lv_at hl 4 rfl) ?_
        refine va_get (D := G) (ci := 12) (v := .ref a_10) (C := RX12) (T := TX12) (N := 38) hx hb hts (mm_i inlX12) hown hK.1 hP 0 rfl rfl 20 (by decide) (mm_h hts mm_w152) (fun _ h9 => h9) rfl dX12_ruleLine_45 ?_
        refine lv_iload_n hx hb dX12_ruleLine_48 rfl (lv_at hl 2 rfl) ?_
        refine lv_iload hx hb dX12_ruleLine_49 (lv_at hl 0 rfl) ?_
        refine lv_iadd hx hb dX12_ruleLine_51 ?_
        refine lv_topi (fun v662 ev662 => ?_)
        have rv662 : mm_rg v662 840 1049 := mm_add ev662 rv8 q661 (by decide) (by decide)
        have tv662 := mm_addE ev662 rv8 q661 (by decide)
        refine lv_iload hx hb dX12_ruleLine_52 (lv_at hl 0 rfl) ?_
        refine va_iast hx hb hK.1 hP hD hS 4 1 rfl rfl (mm_in rv662 (by decide)) dX12_ruleLine_54 ?_
        clear hP hD hS
        clear H locs
        obtain ⟨g663, eg663⟩ : ∃ z : Nat → Int32, z = upd z37_4_72 v662.toNatClampNeg x37_4_71 := ⟨_, rfl⟩
        rw [← eg663]
        intro H locs (hP : va_P G vwCl [(a_0, .inr (12, [.int i_0, .ref a_1, .ref a_2, .ref a_3, .ref a_4, .ref a_5, .int i_1, .int i_2, .int i_3, .int i_4, .int i_5, .long j_0, .int i_6, .int i_7, .int i_8, .int i_9, .ref a_6, .ref a_7, .ref a_8, .ref a_9, .ref a_10, .ref a_11, .ref a_12, .ref a_13, .ref a_14, .ref a_15, .ref a_16, .ref a_17, .ref a_18, .int i_10, .int i_11, .int i_12, .int i_13, .int i_14, .int i_15, .ref a_19, .int i_16, .ref a_20])), (a_5, .inl (cy 0, 600, .inl f_0)), (a_7, .inl (cy 1, 30, .inl (mm_g [i_17, i_18, i_19, i_20, i_21, i_22, i_23, i_24, i_25, i_26, i_27, i_28, i_29, i_30, i_31, i_32, i_33, i_34, i_35, i_36, i_37, i_38, i_39, i_40, i_41, i_42, i_43, i_44, i_45, i_46]))), (a_9, .inl (cy 1, 15, .inl f_1)), (a_10, .inl (cy 1, 1050, .inl g663))] H) (hD : va_D A [(a_0, .inr (12, [.int i_0, .ref a_1, .ref a_2, .ref a_3, .ref a_4, .ref a_5, .int i_1, .int i_2, .int i_3, .int i_4, .int i_5, .long j_0, .int i_6, .int i_7, .int i_8, .int i_9, .ref a_6, .ref a_7, .ref a_8, .ref a_9, .ref a_10, .ref a_11, .ref a_12, .ref a_13, .ref a_14, .ref a_15, .ref a_16, .ref a_17, .ref a_18, .int i_10, .int i_11, .int i_12, .int i_13, .int i_14, .int i_15, .ref a_19, .int i_16, .ref a_20])), (a_5, .inl (cy 0, 600, .inl f_0)), (a_7, .inl (cy 1, 30, .inl (mm_g [i_17, i_18, i_19, i_20, i_21, i_22, i_23, i_24, i_25, i_26, i_27, i_28, i_29, i_30, i_31, i_32, i_33, i_34, i_35, i_36, i_37, i_38, i_39, i_40, i_41, i_42, i_43, i_44, i_45, i_46]))), (a_9, .inl (cy 1, 15, .inl f_1)), (a_10, .inl (cy 1, 1050, .inl g663))]) hS
        have rg663 : mm_ar g663 0 9 := by rw [eg663]; exact mm_ar_upd (mm_ar_wk rz37_4_72 (by decide)) (mm_wk q661 (by decide)) _
        obtain ⟨v664, ev664⟩ : ∃ y : Int32, y = x37_4_71 + 1 := ⟨_, rfl⟩
        refine lv_iinc (v := v664) (lv' := [(4, .int v664), (3, .int v10), (2, .int v8), (1, .int v3), (0, .ref a_0)]) hx hb dX12_ruleLine_55 hl (k := 0) rfl (by rw [ev664]; rfl) (by decide) rfl ?_
        clear hl
        clear ls
        intro ls hl
        have rv664 : mm_rg v664 1 10 := mm_add ev664 q661 mm_k1 (by decide) (by decide)
        have tv664 := mm_addEc ev664 q661 mm_k1 (by decide) (k := 1) (by decide)
        refine lv_goto (tgt := 37) hx hb dX12_ruleLine_58 (by decide) ?_
        exact ih37 v664 g663 (mm_wk rv664 (by decide)) rg663 (mm_fr_u w73 eg663 rv662 (by decide)) (mm_ag_u w74 eg663 tv662 q661 rv8 (by decide)) (mm_idk_s w75 tv664 eg663 tv662 q661 rv8 (by decide)) (mm_mu hm37 tv664 (by decide) (rv664).2 (by decide)) H locs hP hD hS ls (lv_sub hl [0, 1, 2, 3, 4] rfl)
  exact L37_75 _ 0 f_2 (mm_wk mm_k0 (by decide)) h37 (mm_fr_r _ _) (mm_ag_r _ _) (mm_idk_0 _ _) (Nat.lt_succ_self _) H locs hP hD hS ls (lv_sub hl [0, 1, 2, 3, 4] rfl)

set_option maxHeartbeats 4000000 in
set_option maxRecDepth 100000 in
theorem M66_X12_isRoom (l : Launch) (G : va_G) (cy : Nat → ClassId) (sz : Nat) (a_0 : Nat) (i_0 : Int32) (i_1 : Int32) (a_1 : Nat) (a_2 : Nat) (a_3 : Nat) (a_4 : Nat) (a_5 : Nat) (i_2 : Int32) (i_3 : Int32) (i_4 : Int32) (i_5 : Int32) (i_6 : Int32) (j_0 : Int64) (i_7 : Int32) (i_8 : Int32) (i_9 : Int32) (i_10 : Int32) (a_6 : Nat) (a_7 : Nat) (a_8 : Nat) (a_9 : Nat) (a_10 : Nat) (a_11 : Nat) (a_12 : Nat) (a_13 : Nat) (a_14 : Nat) (a_15 : Nat) (a_16 : Nat) (a_17 : Nat) (a_18 : Nat) (i_11 : Int32) (i_12 : Int32) (i_13 : Int32) (i_14 : Int32) (i_15 : Int32) (i_16 : Int32) (a_19 : Nat) (i_17 : Int32) (a_20 : Nat) (f_0 : Nat → Int32) (h0 : mm_rg i_0 1 3) (h1 : mm_rg i_2 0 600) (h2 : mm_rg i_3 0 600) (h3 : mm_rg i_4 0 4) (h4 : mm_rg i_5 0 600) (h5 : mm_rg i_7 0 3) (h6 : mm_ar f_0 (-128) 127) (h7 : (i_5 : Int32).toInt ≤ (i_3 : Int32).toInt) (h8 : (i_3 : Int32).toInt ≤ (i_2 : Int32).toInt) (h9 : mm_tk i_4 i_5 i_3)  : mm_CI l yX12_isRoom (mm_ws yX12_isRoom cX12_isRoom 4 (some .boolean)) ({ frames := 2, cells := 0, slots := 0, locals := 44 } : Room) G cy sz [(a_0, .inr (12, [.int i_1, .ref a_1, .ref a_2, .ref a_3, .ref a_4, .ref a_5, .int i_2, .int i_3, .int i_4, .int i_5, .int i_6, .long j_0, .int i_7, .int i_8, .int i_9, .int i_10, .ref a_6, .ref a_7, .ref a_8, .ref a_9, .ref a_10, .ref a_11, .ref a_12, .ref a_13, .ref a_14, .ref a_15, .ref a_16, .ref a_17, .ref a_18, .int i_11, .int i_12, .int i_13, .int i_14, .int i_15, .int i_16, .ref a_19, .int i_17, .ref a_20])), (a_5, .inl (cy 0, 600, .inl f_0))] [.ref a_0, .int 1, .int i_0, .int 3] (fun u : Int32 × Int32 × Int32 × Int32 × Int64 × Int32 × Int32 => [(a_0, .inr (12, [.int i_1, .ref a_1, .ref a_2, .ref a_3, .ref a_4, .ref a_5, .int i_2, .int u.1, .int u.2.1, .int u.2.2.1, .int u.2.2.2.1, .long u.2.2.2.2.1, .int u.2.2.2.2.2.1, .int u.2.2.2.2.2.2, .int i_9, .int i_10, .ref a_6, .ref a_7, .ref a_8, .ref a_9, .ref a_10, .ref a_11, .ref a_12, .ref a_13, .ref a_14, .ref a_15, .ref a_16, .ref a_17, .ref a_18, .int i_11, .int i_12, .int i_13, .int i_14, .int i_15, .int i_16, .ref a_19, .int i_17, .ref a_20])), (a_5, .inl (cy 0, 600, .inl f_0))]) (fun (r : Int32) (u : Int32 × Int32 × Int32 × Int32 × Int64 × Int32 × Int32) => mm_rg u.1 0 600 ∧ mm_rg u.2.1 0 4 ∧ mm_rg u.2.2.1 0 600 ∧ mm_rg u.2.2.2.2.2.1 0 3 ∧ (u.2.2.1 : Int32).toInt ≤ (u.1 : Int32).toInt ∧ (u.1 : Int32).toInt ≤ (i_2 : Int32).toInt ∧ mm_tk u.2.1 u.2.2.1 u.1 ∧ (i_5 : Int32).toInt ≤ (u.2.2.1 : Int32).toInt ∧ ((0 = r ∧ mm_rg i_0 1 3) ∨ (1 = r ∧ mm_rg i_0 1 2))) 0 0 := by
  refine mm_begin (lv := [(0, .ref a_0), (1, .int 1), (2, .int i_0), (3, .int 3)]) (by decide) (Nat.le_of_ble_eq_true rfl) rfl ?_
  intro p e s m below meth c A ls R args Q H locs hRe hQ hAe hx hb hr hlocks hml hown hnm hts hsz hA hS hP hK hD hZ hl
  have hRf : R.frames = 2 := by rw [hRe]
  have hRl : R.locals = 44 := by rw [hRe]
  have hRc : R.cells = 0 := by rw [hRe]
  have hRs : R.slots = 0 := by rw [hRe]
  refine lv_iload_n hx hb dX12_isRoom_0 rfl (lv_at hl 1 rfl) ?_
  refine lv_if_eq (tgt := 14) hx hb dX12_isRoom_1 (by decide) (fun c1 => ?_) (fun c1 => ?_)
  · exact mm_eqN c1.symm mm_k0 mm_k1 (by decide)
  · refine lv_iload_n hx hb dX12_isRoom_4 rfl (lv_at hl 2 rfl) ?_
    refine lv_iload_n hx hb dX12_isRoom_5 rfl (lv_at hl 3 rfl) ?_
    refine lv_icmp_ne (tgt := 14) hx hb dX12_isRoom_6 (by decide) (fun c2 => ?_) (fun c2 => ?_)
    · have q3 := mm_neH (hi := 2) (mm_ne c2) h0 mm_k3 (by decide) (by decide)
      refine lv_iload_n hx hb dX12_isRoom_14 rfl (lv_at hl 1 rfl) ?_
      refine lv_if_eq (tgt := 29) hx hb dX12_isRoom_15 (by decide) (fun c4 => ?_) (fun c4 => ?_)
      · exact mm_eqN c4.symm mm_k0 mm_k1 (by decide)
      · refine lv_aload_n hx hb dX12_isRoom_18 rfl (lv_at hl 0 rfl) ?_
        refine va_get (D := G) (ci := 12) (v := .int i_7) (C := RX12) (T := TX12) (N := 38) hx hb hts (mm_i inlX12) hown hK.1 hP 0 rfl rfl 12 (by decide) (mm_h hts mm_w436) (fun _ h9 => h9) rfl dX12_isRoom_19 ?_
        refine lv_if_ne (tgt := 29) hx hb dX12_isRoom_22 (by decide) (fun c5 => ?_) (fun c5 => ?_)
        · have q6 := mm_neL (lo := 1) (mm_ne c5) h5 mm_k0 (by decide) (by decide)
          refine lv_iload_n hx hb dX12_isRoom_29 rfl (lv_at hl 1 rfl) ?_
          refine lv_if_eq (tgt := 44) hx hb dX12_isRoom_30 (by decide) (fun c7 => ?_) (fun c7 => ?_)
          · exact mm_eqN c7.symm mm_k0 mm_k1 (by decide)
          · refine lv_aload_n hx hb dX12_isRoom_33 rfl (lv_at hl 0 rfl) ?_
            refine va_get (D := G) (ci := 12) (v := .int i_7) (C := RX12) (T := TX12) (N := 38) hx hb hts (mm_i inlX12) hown hK.1 hP 0 rfl rfl 12 (by decide) (mm_h hts mm_w436) (fun _ h9 => h9) rfl dX12_isRoom_34 ?_
            refine lv_if_ne (tgt := 44) hx hb dX12_isRoom_37 (by decide) (fun c8 => ?_) (fun c8 => ?_)
            · refine lv_iconst (v := 0) hx hb dX12_isRoom_44 (by decide) ?_
              have w9 : (i_5 : Int32).toInt ≤ (i_5 : Int32).toInt := (Int.le_refl _)
              subst hAe
              rw [hQ]
              exact W.zret (v := 0) hx hb hr rfl (fun t ht hW => ⟨⟨0, (i_3, i_4, i_5, i_6, j_0, i_7, i_8), rfl, ⟨h2, h3, h4, (mm_wk q6 (by decide)), h7, h8, h9, w9, (Or.inl ⟨rfl, (mm_wk q3 (by decide))⟩)⟩, by rw [ht]; exact hP, hK.warm hW, hD⟩, hS.F ht⟩) hS.2.2 dX12_isRoom_45
            · exact mm_eqN c8.symm mm_k0 q6 (by decide)
        · have q10 := mm_eqI (lo := 0) (hi := 0) c5 h5 mm_k0 (by decide)
          refine lv_aload_n hx hb dX12_isRoom_25 rfl (lv_at hl 0 rfl) ?_
          refine mm_finv (va_runV (As := []) (rest := []) ⟨hx, hb, hml, hown, hts⟩ (M22_X12_next l G cy H.size a_0 i_1 a_1 a_2 a_3 a_4 a_5 i_2 i_3 i_4 i_5 i_6 j_0 i_7 i_8 i_9 i_10 a_6 a_7 a_8 a_9 a_10 a_11 a_12 a_13 a_14 a_15 a_16 a_17 a_18 i_11 i_12 i_13 i_14 i_15 i_16 a_19 i_17 a_20 f_0 h1 h2 h3 h4 h6 h8) (cwV 0 hts (mm_gV mm_w451 mm_w452 mm_w453 mm_w5 mm_w454) rfl rfl rfl hd_X12_next ⟨by rw [hRf]; exact Nat.le_of_ble_eq_true rfl, by rw [hRl]; exact Nat.le_of_ble_eq_true rfl⟩) (mm_preV hK hZ hS hA hP hD [0, 1] rfl rfl 0 rfl rfl rfl) rfl rfl hl.1 rfl (lv_room (Nat.le_of_ble_eq_true rfl)) dX12_isRoom_26 ⟨by rw [hRc]; exact Nat.le_of_ble_eq_true rfl, by rw [hRs]; exact Nat.le_of_ble_eq_true rfl⟩) hP hD hS hA (fun u : Int32 × Int32 × Int32 × Int32 × Int64 => [(a_0, .inr (12, [.int i_1, .ref a_1, .ref a_2, .ref a_3, .ref a_4, .ref a_5, .int i_2, .int u.1, .int u.2.1, .int u.2.2.1, .int u.2.2.2.1, .long u.2.2.2.2, .int i_7, .int i_8, .int i_9, .int i_10, .ref a_6, .ref a_7, .ref a_8, .ref a_9, .ref a_10, .ref a_11, .ref a_12, .ref a_13, .ref a_14, .ref a_15, .ref a_16, .ref a_17, .ref a_18, .int i_11, .int i_12, .int i_13, .int i_14, .int i_15, .int i_16, .ref a_19, .int i_17, .ref a_20])), (a_5, .inl (cy 0, 600, .inl f_0))]) [0, 1] [] (n := 2) (fun _ => rfl) (by decide +kernel) (by decide +kernel) rfl (fun _ => rfl) (wr := []) rfl (fun _ => rfl) (fun _ => rfl) ?_
          clear hP hD hS
          clear H locs
          intro u
          obtain ⟨n11, n12, n13, n14, n15⟩ := u
          intro H locs hw (hP : va_P G vwCl [(a_0, .inr (12, [.int i_1, .ref a_1, .ref a_2, .ref a_3, .ref a_4, .ref a_5, .int i_2, .int n11, .int n12, .int n13, .int n14, .long n15, .int i_7, .int i_8, .int i_9, .int i_10, .ref a_6, .ref a_7, .ref a_8, .ref a_9, .ref a_10, .ref a_11, .ref a_12, .ref a_13, .ref a_14, .ref a_15, .ref a_16, .ref a_17, .ref a_18, .int i_11, .int i_12, .int i_13, .int i_14, .int i_15, .int i_16, .ref a_19, .int i_17, .ref a_20])), (a_5, .inl (cy 0, 600, .inl f_0))] H) (hD : va_D A [(a_0, .inr (12, [.int i_1, .ref a_1, .ref a_2, .ref a_3, .ref a_4, .ref a_5, .int i_2, .int n11, .int n12, .int n13, .int n14, .long n15, .int i_7, .int i_8, .int i_9, .int i_10, .ref a_6, .ref a_7, .ref a_8, .ref a_9, .ref a_10, .ref a_11, .ref a_12, .ref a_13, .ref a_14, .ref a_15, .ref a_16, .ref a_17, .ref a_18, .int i_11, .int i_12, .int i_13, .int i_14, .int i_15, .int i_16, .ref a_19, .int i_17, .ref a_20])), (a_5, .inl (cy 0, 600, .inl f_0))]) hS
          obtain ⟨w16, w17, w18, w19, w20, w21, w22⟩ := hw
          replace w19 : (n13 : Int32).toInt ≤ (n11 : Int32).toInt := w19
          replace w20 : (n11 : Int32).toInt ≤ (i_2 : Int32).toInt := w20
          replace w21 : mm_tk n12 n13 n11 := w21
          replace w22 : (i_3 : Int32).toInt ≤ (n13 : Int32).toInt := w22
          refine lv_iload_n hx hb dX12_isRoom_29 rfl (lv_at hl 1 rfl) ?_
          refine lv_if_eq (tgt := 44) hx hb dX12_isRoom_30 (by decide) (fun c23 => ?_) (fun c23 => ?_)
          · exact mm_eqN c23.symm mm_k0 mm_k1 (by decide)
          · refine lv_aload_n hx hb dX12_isRoom_33 rfl (lv_at hl 0 rfl) ?_
            refine va_get (D := G) (ci := 12) (v := .int i_7) (C := RX12) (T := TX12) (N := 38) hx hb hts (mm_i inlX12) hown hK.1 hP 0 rfl rfl 12 (by decide) (mm_h hts mm_w436) (fun _ h9 => h9) rfl dX12_isRoom_34 ?_
            refine lv_if_ne (tgt := 44) hx hb dX12_isRoom_37 (by decide) (fun c24 => ?_) (fun c24 => ?_)
            · have q25 := mm_neL (lo := 1) (mm_ne c24) q10 mm_k0 (by decide) (by decide)
              exact mm_no q25 (by decide)
            · refine lv_iconst (v := 1) hx hb dX12_isRoom_40 (by decide) ?_
              refine lv_goto (tgt := 45) hx hb dX12_isRoom_41 (by decide) ?_
              have w26 : (i_5 : Int32).toInt ≤ (n13 : Int32).toInt := (by have := h7; have := w22; omega)
              subst hAe
              rw [hQ]
              exact W.zret (v := 1) hx hb hr rfl (fun t ht hW => ⟨⟨1, (n11, n12, n13, n14, n15, i_7, i_8), rfl, ⟨w16, w17, w18, (mm_wk q10 (by decide)), w19, w20, w21, w26, (Or.inr ⟨rfl, q3⟩)⟩, by rw [ht]; exact hP, hK.warm hW, hD⟩, hS.F ht⟩) hS.2.2 dX12_isRoom_45
    · have q27 := mm_eqI (lo := 3) (hi := 3) c2 h0 mm_k3 (by decide)
      refine lv_aload_n hx hb dX12_isRoom_9 rfl (lv_at hl 0 rfl) ?_
      refine lv_iconst (v := 3) hx hb dX12_isRoom_10 (by decide) ?_
      refine mm_finv (va_runV (As := [.int 3]) (rest := []) ⟨hx, hb, hml, hown, hts⟩ (M45_X12_fails l G cy H.size a_0 i_1 a_1 a_2 a_3 a_4 a_5 i_2 i_3 i_4 i_5 i_6 j_0 i_7 i_8 i_9 i_10 a_6 a_7 a_8 a_9 a_10 a_11 a_12 a_13 a_14 a_15 a_16 a_17 a_18 i_11 i_12 i_13 i_14 i_15 i_16 a_19 i_17 a_20 h4 h5) (cwV 1 hts (mm_gV mm_w483 mm_w484 mm_w485 mm_w5 mm_w486) rfl rfl rfl hd_X12_fails ⟨by rw [hRf]; exact Nat.le_of_ble_eq_true rfl, by rw [hRl]; exact Nat.le_of_ble_eq_true rfl⟩) (mm_preV hK hZ hS hA hP hD [0] rfl rfl 0 rfl rfl rfl) rfl rfl hl.1 rfl (lv_room (Nat.le_of_ble_eq_true rfl)) dX12_isRoom_11 ⟨by rw [hRc]; exact Nat.le_of_ble_eq_true rfl, by rw [hRs]; exact Nat.le_of_ble_eq_true rfl⟩) hP hD hS hA (fun u : Int32 × Int32 => [(a_0, .inr (12, [.int i_1, .ref a_1, .ref a_2, .ref a_3, .ref a_4, .ref a_5, .int i_2, .int i_3, .int i_4, .int i_5, .int i_6, .long j_0, .int u.1, .int u.2, .int i_9, .int i_10, .ref a_6, .ref a_7, .ref a_8, .ref a_9, .ref a_10, .ref a_11, .ref a_12, .ref a_13, .ref a_14, .ref a_15, .ref a_16, .ref a_17, .ref a_18, .int i_11, .int i_12, .int i_13, .int i_14, .int i_15, .int i_16, .ref a_19, .int i_17, .ref a_20])), (a_5, .inl (cy 0, 600, .inl f_0))]) [0] [1] (n := 2) (fun _ => rfl) (by decide +kernel) (by decide +kernel) rfl (fun _ => rfl) (wr := [(a_5, .inl (cy 0, 600, .inl f_0))]) rfl (fun _ => rfl) (fun _ => rfl) ?_
      clear hP hD hS
      clear H locs
      intro u
      obtain ⟨n28, n29⟩ := u
      intro H locs hw (hP : va_P G vwCl [(a_0, .inr (12, [.int i_1, .ref a_1, .ref a_2, .ref a_3, .ref a_4, .ref a_5, .int i_2, .int i_3, .int i_4, .int i_5, .int i_6, .long j_0, .int n28, .int n29, .int i_9, .int i_10, .ref a_6, .ref a_7, .ref a_8, .ref a_9, .ref a_10, .ref a_11, .ref a_12, .ref a_13, .ref a_14, .ref a_15, .ref a_16, .ref a_17, .ref a_18, .int i_11, .int i_12, .int i_13, .int i_14, .int i_15, .int i_16, .ref a_19, .int i_17, .ref a_20])), (a_5, .inl (cy 0, 600, .inl f_0))] H) (hD : va_D A [(a_0, .inr (12, [.int i_1, .ref a_1, .ref a_2, .ref a_3, .ref a_4, .ref a_5, .int i_2, .int i_3, .int i_4, .int i_5, .int i_6, .long j_0, .int n28, .int n29, .int i_9, .int i_10, .ref a_6, .ref a_7, .ref a_8, .ref a_9, .ref a_10, .ref a_11, .ref a_12, .ref a_13, .ref a_14, .ref a_15, .ref a_16, .ref a_17, .ref a_18, .int i_11, .int i_12, .int i_13, .int i_14, .int i_15, .int i_16, .ref a_19, .int i_17, .ref a_20])), (a_5, .inl (cy 0, 600, .inl f_0))]) hS
      have w30 := hw
      refine lv_iload_n hx hb dX12_isRoom_14 rfl (lv_at hl 1 rfl) ?_
      refine lv_if_eq (tgt := 29) hx hb dX12_isRoom_15 (by decide) (fun c31 => ?_) (fun c31 => ?_)
      · exact mm_eqN c31.symm mm_k0 mm_k1 (by decide)
      · refine lv_aload_n hx hb dX12_isRoom_18 rfl (lv_at hl 0 rfl) ?_
        refine va_get (D := G) (ci := 12) (v := .int n28) (C := RX12) (T := TX12) (N := 38) hx hb hts (mm_i inlX12) hown hK.1 hP 0 rfl rfl 12 (by decide) (mm_h hts mm_w436) (fun _ h9 => h9) rfl dX12_isRoom_19 ?_
        refine lv_if_ne (tgt := 29) hx hb dX12_isRoom_22 (by decide) (fun c32 => ?_) (fun c32 => ?_)
        · refine lv_iload_n hx hb dX12_isRoom_29 rfl (lv_at hl 1 rfl) ?_
          refine lv_if_eq (tgt := 44) hx hb dX12_isRoom_30 (by decide) (fun c33 => ?_) (fun c33 => ?_)
          · exact mm_eqN c33.symm mm_k0 mm_k1 (by decide)
          · refine lv_aload_n hx hb dX12_isRoom_33 rfl (lv_at hl 0 rfl) ?_
            refine va_get (D := G) (ci := 12) (v := .int n28) (C := RX12) (T := TX12) (N := 38) hx hb hts (mm_i inlX12) hown hK.1 hP 0 rfl rfl 12 (by decide) (mm_h hts mm_w436) (fun _ h9 => h9) rfl dX12_isRoom_34 ?_
            refine lv_if_ne (tgt := 44) hx hb dX12_isRoom_37 (by decide) (fun c34 => ?_) (fun c34 => ?_)
            · refine lv_iconst (v := 0) hx hb dX12_isRoom_44 (by decide) ?_
              have w35 : (i_5 : Int32).toInt ≤ (i_5 : Int32).toInt := (Int.le_refl _)
              subst hAe
              rw [hQ]
              exact W.zret (v := 0) hx hb hr rfl (fun t ht hW => ⟨⟨0, (i_3, i_4, i_5, i_6, j_0, n28, n29), rfl, ⟨h2, h3, h4, (mm_wk w30 (by decide)), h7, h8, h9, w35, (Or.inl ⟨rfl, (mm_wk q27 (by decide))⟩)⟩, by rw [ht]; exact hP, hK.warm hW, hD⟩, hS.F ht⟩) hS.2.2 dX12_isRoom_45
            · exact mm_eqN c34.symm mm_k0 w30 (by decide)
        · exact mm_eqN c32.symm mm_k0 w30 (by decide)

set_option maxHeartbeats 4000000 in
set_option maxRecDepth 100000 in
theorem M67_X12_tells (l : Launch) (G : va_G) (cy : Nat → ClassId) (sz : Nat) (a_0 : Nat) (i_0 : Int32) (i_1 : Int32) (a_1 : Nat) (a_2 : Nat) (a_3 : Nat) (a_4 : Nat) (a_5 : Nat) (i_2 : Int32) (i_3 : Int32) (i_4 : Int32) (i_5 : Int32) (i_6 : Int32) (j_0 : Int64) (i_7 : Int32) (i_8 : Int32) (i_9 : Int32) (i_10 : Int32) (a_6 : Nat) (a_7 : Nat) (a_8 : Nat) (a_9 : Nat) (a_10 : Nat) (a_11 : Nat) (a_12 : Nat) (a_13 : Nat) (a_14 : Nat) (a_15 : Nat) (a_16 : Nat) (a_17 : Nat) (a_18 : Nat) (i_11 : Int32) (i_12 : Int32) (i_13 : Int32) (i_14 : Int32) (i_15 : Int32) (i_16 : Int32) (a_19 : Nat) (i_17 : Int32) (a_20 : Nat) (i_18 : Int32) (i_19 : Int32) (i_20 : Int32) (i_21 : Int32) (i_22 : Int32) (i_23 : Int32) (i_24 : Int32) (i_25 : Int32) (i_26 : Int32) (i_27 : Int32) (i_28 : Int32) (i_29 : Int32) (i_30 : Int32) (i_31 : Int32) (i_32 : Int32) (i_33 : Int32) (i_34 : Int32) (i_35 : Int32) (i_36 : Int32) (i_37 : Int32) (i_38 : Int32) (i_39 : Int32) (i_40 : Int32) (i_41 : Int32) (i_42 : Int32) (i_43 : Int32) (i_44 : Int32) (i_45 : Int32) (i_46 : Int32) (i_47 : Int32) (h0 : mm_rg i_0 2 3) (h1 : mm_rg i_18 0 10) (h2 : mm_rg i_19 0 99) (h3 : mm_rg i_20 0 9) (h4 : mm_rg i_21 0 3) (h5 : mm_rg i_22 0 6) (h6 : mm_rg i_23 0 30) (h7 : mm_rg i_24 0 10) (h8 : mm_rg i_25 0 99) (h9 : mm_rg i_26 0 9) (h10 : mm_rg i_27 0 3) (h11 : mm_rg i_28 0 6) (h12 : mm_rg i_29 0 30) (h13 : mm_rg i_30 0 10) (h14 : mm_rg i_31 0 99) (h15 : mm_rg i_32 0 9) (h16 : mm_rg i_33 0 3) (h17 : mm_rg i_34 0 6) (h18 : mm_rg i_35 0 30) (h19 : mm_rg i_36 0 10) (h20 : mm_rg i_37 0 99) (h21 : mm_rg i_38 0 9) (h22 : mm_rg i_39 0 3) (h23 : mm_rg i_40 0 6) (h24 : mm_rg i_41 0 30) (h25 : mm_rg i_42 0 10) (h26 : mm_rg i_43 0 99) (h27 : mm_rg i_44 0 9) (h28 : mm_rg i_45 0 3) (h29 : mm_rg i_46 0 6) (h30 : mm_rg i_47 0 30)  : mm_CV l yX12_tells (mm_ws yX12_tells cX12_tells 3 (none)) ({ frames := 0, cells := 0, slots := 0, locals := 0 } : Room) G cy sz [(a_0, .inr (12, [.int i_1, .ref a_1, .ref a_2, .ref a_3, .ref a_4, .ref a_5, .int i_2, .int i_3, .int i_4, .int i_5, .int i_6, .long j_0, .int i_7, .int i_8, .int i_9, .int i_10, .ref a_6, .ref a_7, .ref a_8, .ref a_9, .ref a_10, .ref a_11, .ref a_12, .ref a_13, .ref a_14, .ref a_15, .ref a_16, .ref a_17, .ref a_18, .int i_11, .int i_12, .int i_13, .int i_14, .int i_15, .int i_16, .ref a_19, .int i_17, .ref a_20])), (a_7, .inl (cy 1, 30, .inl (mm_g [i_18, i_19, i_20, i_21, i_22, i_23, i_24, i_25, i_26, i_27, i_28, i_29, i_30, i_31, i_32, i_33, i_34, i_35, i_36, i_37, i_38, i_39, i_40, i_41, i_42, i_43, i_44, i_45, i_46, i_47])))] [.ref a_0, .int 3, .int i_0] (fun u : Unit => [(a_0, .inr (12, [.int i_1, .ref a_1, .ref a_2, .ref a_3, .ref a_4, .ref a_5, .int i_2, .int i_3, .int i_4, .int i_5, .int i_6, .long j_0, .int i_7, .int i_8, .int i_9, .int i_10, .ref a_6, .ref a_7, .ref a_8, .ref a_9, .ref a_10, .ref a_11, .ref a_12, .ref a_13, .ref a_14, .ref a_15, .ref a_16, .ref a_17, .ref a_18, .int i_11, .int i_12, .int i_13, .int i_14, .int i_15, .int i_16, .ref a_19, .int i_17, .ref a_20])), (a_7, .inl (cy 1, 30, .inl (mm_g [i_18, i_19, i_20, i_21, i_22, i_23, i_24, i_25, i_26, i_27, i_28, i_29, i_30, i_31, i_32, i_33, i_34, i_35, i_36, i_37, i_38, i_39, i_40, i_41, i_42, i_43, i_44, i_0, i_46, i_47])))]) (fun u : Unit => True) 0 0 := by
  refine mm_begin (lv := [(0, .ref a_0), (1, .int 3), (2, .int i_0)]) (by decide) (Nat.le_of_ble_eq_true rfl) rfl ?_
  intro p e s m below meth c A ls R args Q H locs hRe hQ hAe hx hb hr hlocks hml hown hnm hts hsz hA hS hP hK hD hZ hl
  have hRf : R.frames = 0 := by rw [hRe]
  have hRl : R.locals = 0 := by rw [hRe]
  have hRc : R.cells = 0 := by rw [hRe]
  have hRs : R.slots = 0 := by rw [hRe]
  refine lv_aload_n hx hb dX12_tells_0 rfl (lv_at hl 0 rfl) ?_
  refine va_get (D := G) (ci := 12) (v := .ref a_7) (C := RX12) (T := TX12) (N := 38) hx hb hts (mm_i inlX12) hown hK.1 hP 0 rfl rfl 17 (by decide) (mm_h hts mm_w149) (fun _ h9 => h9) rfl dX12_tells_1 ?_
  refine lv_bipush (v := 24) hx hb dX12_tells_4 (by decide) ?_
  refine lv_iload_n hx hb dX12_tells_6 rfl (lv_at hl 1 rfl) ?_
  refine lv_iadd hx hb dX12_tells_7 ?_
  refine lv_topi (fun v1 ev1 => ?_)
  obtain rfl : v1 = 27 := ev1.trans (by decide)
  refine lv_iload_n hx hb dX12_tells_8 rfl (lv_at hl 2 rfl) ?_
  refine va_iast hx hb hK.1 hP hD hS 1 1 rfl rfl (mm_in mm_k27 (by decide)) dX12_tells_9 ?_
  clear hP hD hS
  clear H locs
  rw [show upd (mm_g [i_18, i_19, i_20, i_21, i_22, i_23, i_24, i_25, i_26, i_27, i_28, i_29, i_30, i_31, i_32, i_33, i_34, i_35, i_36, i_37, i_38, i_39, i_40, i_41, i_42, i_43, i_44, i_45, i_46, i_47]) (27 : Int32).toNatClampNeg i_0 = (mm_g [i_18, i_19, i_20, i_21, i_22, i_23, i_24, i_25, i_26, i_27, i_28, i_29, i_30, i_31, i_32, i_33, i_34, i_35, i_36, i_37, i_38, i_39, i_40, i_41, i_42, i_43, i_44, i_0, i_46, i_47]) from mm_gs2 27 30 (by decide) rfl rfl rfl]
  intro H locs (hP : va_P G vwCl [(a_0, .inr (12, [.int i_1, .ref a_1, .ref a_2, .ref a_3, .ref a_4, .ref a_5, .int i_2, .int i_3, .int i_4, .int i_5, .int i_6, .long j_0, .int i_7, .int i_8, .int i_9, .int i_10, .ref a_6, .ref a_7, .ref a_8, .ref a_9, .ref a_10, .ref a_11, .ref a_12, .ref a_13, .ref a_14, .ref a_15, .ref a_16, .ref a_17, .ref a_18, .int i_11, .int i_12, .int i_13, .int i_14, .int i_15, .int i_16, .ref a_19, .int i_17, .ref a_20])), (a_7, .inl (cy 1, 30, .inl (mm_g [i_18, i_19, i_20, i_21, i_22, i_23, i_24, i_25, i_26, i_27, i_28, i_29, i_30, i_31, i_32, i_33, i_34, i_35, i_36, i_37, i_38, i_39, i_40, i_41, i_42, i_43, i_44, i_0, i_46, i_47])))] H) (hD : va_D A [(a_0, .inr (12, [.int i_1, .ref a_1, .ref a_2, .ref a_3, .ref a_4, .ref a_5, .int i_2, .int i_3, .int i_4, .int i_5, .int i_6, .long j_0, .int i_7, .int i_8, .int i_9, .int i_10, .ref a_6, .ref a_7, .ref a_8, .ref a_9, .ref a_10, .ref a_11, .ref a_12, .ref a_13, .ref a_14, .ref a_15, .ref a_16, .ref a_17, .ref a_18, .int i_11, .int i_12, .int i_13, .int i_14, .int i_15, .int i_16, .ref a_19, .int i_17, .ref a_20])), (a_7, .inl (cy 1, 30, .inl (mm_g [i_18, i_19, i_20, i_21, i_22, i_23, i_24, i_25, i_26, i_27, i_28, i_29, i_30, i_31, i_32, i_33, i_34, i_35, i_36, i_37, i_38, i_39, i_40, i_41, i_42, i_43, i_44, i_0, i_46, i_47])))]) hS
  subst hAe
  rw [hQ]
  exact W.vret hx hb hr (fun t ht hW => ⟨⟨(), rfl, trivial, by rw [ht]; exact hP, hK.warm hW, hD⟩, hS.F ht⟩) hS.2.2 dX12_tells_10

set_option maxHeartbeats 4000000 in
set_option maxRecDepth 100000 in
theorem M68_X12_isRoom (l : Launch) (G : va_G) (cy : Nat → ClassId) (sz : Nat) (a_0 : Nat) (i_0 : Int32) (h0 : mm_rg i_0 1 6)  : mm_CI l yX12_isRoom (mm_ws yX12_isRoom cX12_isRoom 4 (some .boolean)) ({ frames := 0, cells := 0, slots := 0, locals := 0 } : Room) G cy sz [] [.ref a_0, .int 0, .int i_0, .int 6] (fun u : Unit => []) (fun (r : Int32) (u : Unit) => 0 = r) 0 0 := by
  refine mm_begin (lv := [(0, .ref a_0), (1, .int 0), (2, .int i_0), (3, .int 6)]) (by decide) (Nat.le_of_ble_eq_true rfl) rfl ?_
  intro p e s m below meth c A ls R args Q H locs hRe hQ hAe hx hb hr hlocks hml hown hnm hts hsz hA hS hP hK hD hZ hl
  have hRf : R.frames = 0 := by rw [hRe]
  have hRl : R.locals = 0 := by rw [hRe]
  have hRc : R.cells = 0 := by rw [hRe]
  have hRs : R.slots = 0 := by rw [hRe]
  refine lv_iload_n hx hb dX12_isRoom_0 rfl (lv_at hl 1 rfl) ?_
  refine lv_if_eq (tgt := 14) hx hb dX12_isRoom_1 (by decide) (fun c1 => ?_) (fun c1 => ?_)
  · refine lv_iload_n hx hb dX12_isRoom_14 rfl (lv_at hl 1 rfl) ?_
    refine lv_if_eq (tgt := 29) hx hb dX12_isRoom_15 (by decide) (fun c2 => ?_) (fun c2 => ?_)
    · refine lv_iload_n hx hb dX12_isRoom_29 rfl (lv_at hl 1 rfl) ?_
      refine lv_if_eq (tgt := 44) hx hb dX12_isRoom_30 (by decide) (fun c3 => ?_) (fun c3 => ?_)
      · refine lv_iconst (v := 0) hx hb dX12_isRoom_44 (by decide) ?_
        subst hAe
        rw [hQ]
        exact W.zret (v := 0) hx hb hr rfl (fun t ht hW => ⟨⟨0, (), rfl, rfl, by rw [ht]; exact hP, hK.warm hW, hD⟩, hS.F ht⟩) hS.2.2 dX12_isRoom_45
      · have q4 := mm_neL (lo := 1) (mm_ne c3) mm_k0 mm_k0 (by decide) (by decide)
        exact mm_no q4 (by decide)
    · have q5 := mm_neL (lo := 1) (mm_ne c2) mm_k0 mm_k0 (by decide) (by decide)
      exact mm_no q5 (by decide)
  · have q6 := mm_neL (lo := 1) (mm_ne c1) mm_k0 mm_k0 (by decide) (by decide)
    exact mm_no q6 (by decide)

set_option maxHeartbeats 4000000 in
set_option maxRecDepth 100000 in
theorem M69_X12_isRoom (l : Launch) (G : va_G) (cy : Nat → ClassId) (sz : Nat) (a_0 : Nat) (i_0 : Int32) (i_1 : Int32) (a_1 : Nat) (a_2 : Nat) (a_3 : Nat) (a_4 : Nat) (a_5 : Nat) (i_2 : Int32) (i_3 : Int32) (i_4 : Int32) (i_5 : Int32) (i_6 : Int32) (j_0 : Int64) (i_7 : Int32) (i_8 : Int32) (i_9 : Int32) (i_10 : Int32) (a_6 : Nat) (a_7 : Nat) (a_8 : Nat) (a_9 : Nat) (a_10 : Nat) (a_11 : Nat) (a_12 : Nat) (a_13 : Nat) (a_14 : Nat) (a_15 : Nat) (a_16 : Nat) (a_17 : Nat) (a_18 : Nat) (i_11 : Int32) (i_12 : Int32) (i_13 : Int32) (i_14 : Int32) (i_15 : Int32) (i_16 : Int32) (a_19 : Nat) (i_17 : Int32) (a_20 : Nat) (f_0 : Nat → Int32) (h0 : mm_rg i_0 1 6) (h1 : mm_rg i_2 0 600) (h2 : mm_rg i_3 0 600) (h3 : mm_rg i_4 0 4) (h4 : mm_rg i_5 0 600) (h5 : mm_rg i_7 0 3) (h6 : mm_ar f_0 (-128) 127) (h7 : (i_5 : Int32).toInt ≤ (i_3 : Int32).toInt) (h8 : (i_3 : Int32).toInt ≤ (i_2 : Int32).toInt) (h9 : mm_tk i_4 i_5 i_3)  : mm_CI l yX12_isRoom (mm_ws yX12_isRoom cX12_isRoom 4 (some .boolean)) ({ frames := 2, cells := 0, slots := 0, locals := 44 } : Room) G cy sz [(a_0, .inr (12, [.int i_1, .ref a_1, .ref a_2, .ref a_3, .ref a_4, .ref a_5, .int i_2, .int i_3, .int i_4, .int i_5, .int i_6, .long j_0, .int i_7, .int i_8, .int i_9, .int i_10, .ref a_6, .ref a_7, .ref a_8, .ref a_9, .ref a_10, .ref a_11, .ref a_12, .ref a_13, .ref a_14, .ref a_15, .ref a_16, .ref a_17, .ref a_18, .int i_11, .int i_12, .int i_13, .int i_14, .int i_15, .int i_16, .ref a_19, .int i_17, .ref a_20])), (a_5, .inl (cy 0, 600, .inl f_0))] [.ref a_0, .int 1, .int i_0, .int 6] (fun u : Int32 × Int32 × Int32 × Int32 × Int64 × Int32 × Int32 => [(a_0, .inr (12, [.int i_1, .ref a_1, .ref a_2, .ref a_3, .ref a_4, .ref a_5, .int i_2, .int u.1, .int u.2.1, .int u.2.2.1, .int u.2.2.2.1, .long u.2.2.2.2.1, .int u.2.2.2.2.2.1, .int u.2.2.2.2.2.2, .int i_9, .int i_10, .ref a_6, .ref a_7, .ref a_8, .ref a_9, .ref a_10, .ref a_11, .ref a_12, .ref a_13, .ref a_14, .ref a_15, .ref a_16, .ref a_17, .ref a_18, .int i_11, .int i_12, .int i_13, .int i_14, .int i_15, .int i_16, .ref a_19, .int i_17, .ref a_20])), (a_5, .inl (cy 0, 600, .inl f_0))]) (fun (r : Int32) (u : Int32 × Int32 × Int32 × Int32 × Int64 × Int32 × Int32) => mm_rg u.1 0 600 ∧ mm_rg u.2.1 0 4 ∧ mm_rg u.2.2.1 0 600 ∧ mm_rg u.2.2.2.2.2.1 0 3 ∧ (u.2.2.1 : Int32).toInt ≤ (u.1 : Int32).toInt ∧ (u.1 : Int32).toInt ≤ (i_2 : Int32).toInt ∧ mm_tk u.2.1 u.2.2.1 u.1 ∧ (i_5 : Int32).toInt ≤ (u.2.2.1 : Int32).toInt ∧ ((0 = r ∧ mm_rg i_0 1 6) ∨ (1 = r ∧ mm_rg i_0 1 5))) 0 0 := by
  refine mm_begin (lv := [(0, .ref a_0), (1, .int 1), (2, .int i_0), (3, .int 6)]) (by decide) (Nat.le_of_ble_eq_true rfl) rfl ?_
  intro p e s m below meth c A ls R args Q H locs hRe hQ hAe hx hb hr hlocks hml hown hnm hts hsz hA hS hP hK hD hZ hl
  have hRf : R.frames = 2 := by rw [hRe]
  have hRl : R.locals = 44 := by rw [hRe]
  have hRc : R.cells = 0 := by rw [hRe]
  have hRs : R.slots = 0 := by rw [hRe]
  refine lv_iload_n hx hb dX12_isRoom_0 rfl (lv_at hl 1 rfl) ?_
  refine lv_if_eq (tgt := 14) hx hb dX12_isRoom_1 (by decide) (fun c1 => ?_) (fun c1 => ?_)
  · exact mm_eqN c1.symm mm_k0 mm_k1 (by decide)
  · refine lv_iload_n hx hb dX12_isRoom_4 rfl (lv_at hl 2 rfl) ?_
    refine lv_iload_n hx hb dX12_isRoom_5 rfl (lv_at hl 3 rfl) ?_
    refine lv_icmp_ne (tgt := 14) hx hb dX12_isRoom_6 (by decide) (fun c2 => ?_) (fun c2 => ?_)
    · have q3 := mm_neH (hi := 5) (mm_ne c2) h0 mm_k6 (by decide) (by decide)
      refine lv_iload_n hx hb dX12_isRoom_14 rfl (lv_at hl 1 rfl) ?_
      refine lv_if_eq (tgt := 29) hx hb dX12_isRoom_15 (by decide) (fun c4 => ?_) (fun c4 => ?_)
      · exact mm_eqN c4.symm mm_k0 mm_k1 (by decide)
      · refine lv_aload_n hx hb dX12_isRoom_18 rfl (lv_at hl 0 rfl) ?_
        refine va_get (D := G) (ci := 12) (v := .int i_7) (C := RX12) (T := TX12) (N := 38) hx hb hts (mm_i inlX12) hown hK.1 hP 0 rfl rfl 12 (by decide) (mm_h hts mm_w436) (fun _ h9 => h9) rfl dX12_isRoom_19 ?_
        refine lv_if_ne (tgt := 29) hx hb dX12_isRoom_22 (by decide) (fun c5 => ?_) (fun c5 => ?_)
        · have q6 := mm_neL (lo := 1) (mm_ne c5) h5 mm_k0 (by decide) (by decide)
          refine lv_iload_n hx hb dX12_isRoom_29 rfl (lv_at hl 1 rfl) ?_
          refine lv_if_eq (tgt := 44) hx hb dX12_isRoom_30 (by decide) (fun c7 => ?_) (fun c7 => ?_)
          · exact mm_eqN c7.symm mm_k0 mm_k1 (by decide)
          · refine lv_aload_n hx hb dX12_isRoom_33 rfl (lv_at hl 0 rfl) ?_
            refine va_get (D := G) (ci := 12) (v := .int i_7) (C := RX12) (T := TX12) (N := 38) hx hb hts (mm_i inlX12) hown hK.1 hP 0 rfl rfl 12 (by decide) (mm_h hts mm_w436) (fun _ h9 => h9) rfl dX12_isRoom_34 ?_
            refine lv_if_ne (tgt := 44) hx hb dX12_isRoom_37 (by decide) (fun c8 => ?_) (fun c8 => ?_)
            · refine lv_iconst (v := 0) hx hb dX12_isRoom_44 (by decide) ?_
              have w9 : (i_5 : Int32).toInt ≤ (i_5 : Int32).toInt := (Int.le_refl _)
              subst hAe
              rw [hQ]
              exact W.zret (v := 0) hx hb hr rfl (fun t ht hW => ⟨⟨0, (i_3, i_4, i_5, i_6, j_0, i_7, i_8), rfl, ⟨h2, h3, h4, (mm_wk q6 (by decide)), h7, h8, h9, w9, (Or.inl ⟨rfl, (mm_wk q3 (by decide))⟩)⟩, by rw [ht]; exact hP, hK.warm hW, hD⟩, hS.F ht⟩) hS.2.2 dX12_isRoom_45
            · exact mm_eqN c8.symm mm_k0 q6 (by decide)
        · have q10 := mm_eqI (lo := 0) (hi := 0) c5 h5 mm_k0 (by decide)
          refine lv_aload_n hx hb dX12_isRoom_25 rfl (lv_at hl 0 rfl) ?_
          refine mm_finv (va_runV (As := []) (rest := []) ⟨hx, hb, hml, hown, hts⟩ (M22_X12_next l G cy H.size a_0 i_1 a_1 a_2 a_3 a_4 a_5 i_2 i_3 i_4 i_5 i_6 j_0 i_7 i_8 i_9 i_10 a_6 a_7 a_8 a_9 a_10 a_11 a_12 a_13 a_14 a_15 a_16 a_17 a_18 i_11 i_12 i_13 i_14 i_15 i_16 a_19 i_17 a_20 f_0 h1 h2 h3 h4 h6 h8) (cwV 0 hts (mm_gV mm_w451 mm_w452 mm_w453 mm_w5 mm_w454) rfl rfl rfl hd_X12_next ⟨by rw [hRf]; exact Nat.le_of_ble_eq_true rfl, by rw [hRl]; exact Nat.le_of_ble_eq_true rfl⟩) (mm_preV hK hZ hS hA hP hD [0, 1] rfl rfl 0 rfl rfl rfl) rfl rfl hl.1 rfl (lv_room (Nat.le_of_ble_eq_true rfl)) dX12_isRoom_26 ⟨by rw [hRc]; exact Nat.le_of_ble_eq_true rfl, by rw [hRs]; exact Nat.le_of_ble_eq_true rfl⟩) hP hD hS hA (fun u : Int32 × Int32 × Int32 × Int32 × Int64 => [(a_0, .inr (12, [.int i_1, .ref a_1, .ref a_2, .ref a_3, .ref a_4, .ref a_5, .int i_2, .int u.1, .int u.2.1, .int u.2.2.1, .int u.2.2.2.1, .long u.2.2.2.2, .int i_7, .int i_8, .int i_9, .int i_10, .ref a_6, .ref a_7, .ref a_8, .ref a_9, .ref a_10, .ref a_11, .ref a_12, .ref a_13, .ref a_14, .ref a_15, .ref a_16, .ref a_17, .ref a_18, .int i_11, .int i_12, .int i_13, .int i_14, .int i_15, .int i_16, .ref a_19, .int i_17, .ref a_20])), (a_5, .inl (cy 0, 600, .inl f_0))]) [0, 1] [] (n := 2) (fun _ => rfl) (by decide +kernel) (by decide +kernel) rfl (fun _ => rfl) (wr := []) rfl (fun _ => rfl) (fun _ => rfl) ?_
          clear hP hD hS
          clear H locs
          intro u
          obtain ⟨n11, n12, n13, n14, n15⟩ := u
          intro H locs hw (hP : va_P G vwCl [(a_0, .inr (12, [.int i_1, .ref a_1, .ref a_2, .ref a_3, .ref a_4, .ref a_5, .int i_2, .int n11, .int n12, .int n13, .int n14, .long n15, .int i_7, .int i_8, .int i_9, .int i_10, .ref a_6, .ref a_7, .ref a_8, .ref a_9, .ref a_10, .ref a_11, .ref a_12, .ref a_13, .ref a_14, .ref a_15, .ref a_16, .ref a_17, .ref a_18, .int i_11, .int i_12, .int i_13, .int i_14, .int i_15, .int i_16, .ref a_19, .int i_17, .ref a_20])), (a_5, .inl (cy 0, 600, .inl f_0))] H) (hD : va_D A [(a_0, .inr (12, [.int i_1, .ref a_1, .ref a_2, .ref a_3, .ref a_4, .ref a_5, .int i_2, .int n11, .int n12, .int n13, .int n14, .long n15, .int i_7, .int i_8, .int i_9, .int i_10, .ref a_6, .ref a_7, .ref a_8, .ref a_9, .ref a_10, .ref a_11, .ref a_12, .ref a_13, .ref a_14, .ref a_15, .ref a_16, .ref a_17, .ref a_18, .int i_11, .int i_12, .int i_13, .int i_14, .int i_15, .int i_16, .ref a_19, .int i_17, .ref a_20])), (a_5, .inl (cy 0, 600, .inl f_0))]) hS
          obtain ⟨w16, w17, w18, w19, w20, w21, w22⟩ := hw
          replace w19 : (n13 : Int32).toInt ≤ (n11 : Int32).toInt := w19
          replace w20 : (n11 : Int32).toInt ≤ (i_2 : Int32).toInt := w20
          replace w21 : mm_tk n12 n13 n11 := w21
          replace w22 : (i_3 : Int32).toInt ≤ (n13 : Int32).toInt := w22
          refine lv_iload_n hx hb dX12_isRoom_29 rfl (lv_at hl 1 rfl) ?_
          refine lv_if_eq (tgt := 44) hx hb dX12_isRoom_30 (by decide) (fun c23 => ?_) (fun c23 => ?_)
          · exact mm_eqN c23.symm mm_k0 mm_k1 (by decide)
          · refine lv_aload_n hx hb dX12_isRoom_33 rfl (lv_at hl 0 rfl) ?_
            refine va_get (D := G) (ci := 12) (v := .int i_7) (C := RX12) (T := TX12) (N := 38) hx hb hts (mm_i inlX12) hown hK.1 hP 0 rfl rfl 12 (by decide) (mm_h hts mm_w436) (fun _ h9 => h9) rfl dX12_isRoom_34 ?_
            refine lv_if_ne (tgt := 44) hx hb dX12_isRoom_37 (by decide) (fun c24 => ?_) (fun c24 => ?_)
            · have q25 := mm_neL (lo := 1) (mm_ne c24) q10 mm_k0 (by decide) (by decide)
              exact mm_no q25 (by decide)
            · refine lv_iconst (v := 1) hx hb dX12_isRoom_40 (by decide) ?_
              refine lv_goto (tgt := 45) hx hb dX12_isRoom_41 (by decide) ?_
              have w26 : (i_5 : Int32).toInt ≤ (n13 : Int32).toInt := (by have := h7; have := w22; omega)
              subst hAe
              rw [hQ]
              exact W.zret (v := 1) hx hb hr rfl (fun t ht hW => ⟨⟨1, (n11, n12, n13, n14, n15, i_7, i_8), rfl, ⟨w16, w17, w18, (mm_wk q10 (by decide)), w19, w20, w21, w26, (Or.inr ⟨rfl, q3⟩)⟩, by rw [ht]; exact hP, hK.warm hW, hD⟩, hS.F ht⟩) hS.2.2 dX12_isRoom_45
    · have q27 := mm_eqI (lo := 6) (hi := 6) c2 h0 mm_k6 (by decide)
      refine lv_aload_n hx hb dX12_isRoom_9 rfl (lv_at hl 0 rfl) ?_
      refine lv_iconst (v := 3) hx hb dX12_isRoom_10 (by decide) ?_
      refine mm_finv (va_runV (As := [.int 3]) (rest := []) ⟨hx, hb, hml, hown, hts⟩ (M45_X12_fails l G cy H.size a_0 i_1 a_1 a_2 a_3 a_4 a_5 i_2 i_3 i_4 i_5 i_6 j_0 i_7 i_8 i_9 i_10 a_6 a_7 a_8 a_9 a_10 a_11 a_12 a_13 a_14 a_15 a_16 a_17 a_18 i_11 i_12 i_13 i_14 i_15 i_16 a_19 i_17 a_20 h4 h5) (cwV 1 hts (mm_gV mm_w483 mm_w484 mm_w485 mm_w5 mm_w486) rfl rfl rfl hd_X12_fails ⟨by rw [hRf]; exact Nat.le_of_ble_eq_true rfl, by rw [hRl]; exact Nat.le_of_ble_eq_true rfl⟩) (mm_preV hK hZ hS hA hP hD [0] rfl rfl 0 rfl rfl rfl) rfl rfl hl.1 rfl (lv_room (Nat.le_of_ble_eq_true rfl)) dX12_isRoom_11 ⟨by rw [hRc]; exact Nat.le_of_ble_eq_true rfl, by rw [hRs]; exact Nat.le_of_ble_eq_true rfl⟩) hP hD hS hA (fun u : Int32 × Int32 => [(a_0, .inr (12, [.int i_1, .ref a_1, .ref a_2, .ref a_3, .ref a_4, .ref a_5, .int i_2, .int i_3, .int i_4, .int i_5, .int i_6, .long j_0, .int u.1, .int u.2, .int i_9, .int i_10, .ref a_6, .ref a_7, .ref a_8, .ref a_9, .ref a_10, .ref a_11, .ref a_12, .ref a_13, .ref a_14, .ref a_15, .ref a_16, .ref a_17, .ref a_18, .int i_11, .int i_12, .int i_13, .int i_14, .int i_15, .int i_16, .ref a_19, .int i_17, .ref a_20])), (a_5, .inl (cy 0, 600, .inl f_0))]) [0] [1] (n := 2) (fun _ => rfl) (by decide +kernel) (by decide +kernel) rfl (fun _ => rfl) (wr := [(a_5, .inl (cy 0, 600, .inl f_0))]) rfl (fun _ => rfl) (fun _ => rfl) ?_
      clear hP hD hS
      clear H locs
      intro u
      obtain ⟨n28, n29⟩ := u
      intro H locs hw (hP : va_P G vwCl [(a_0, .inr (12, [.int i_1, .ref a_1, .ref a_2, .ref a_3, .ref a_4, .ref a_5, .int i_2, .int i_3, .int i_4, .int i_5, .int i_6, .long j_0, .int n28, .int n29, .int i_9, .int i_10, .ref a_6, .ref a_7, .ref a_8, .ref a_9, .ref a_10, .ref a_11, .ref a_12, .ref a_13, .ref a_14, .ref a_15, .ref a_16, .ref a_17, .ref a_18, .int i_11, .int i_12, .int i_13, .int i_14, .int i_15, .int i_16, .ref a_19, .int i_17, .ref a_20])), (a_5, .inl (cy 0, 600, .inl f_0))] H) (hD : va_D A [(a_0, .inr (12, [.int i_1, .ref a_1, .ref a_2, .ref a_3, .ref a_4, .ref a_5, .int i_2, .int i_3, .int i_4, .int i_5, .int i_6, .long j_0, .int n28, .int n29, .int i_9, .int i_10, .ref a_6, .ref a_7, .ref a_8, .ref a_9, .ref a_10, .ref a_11, .ref a_12, .ref a_13, .ref a_14, .ref a_15, .ref a_16, .ref a_17, .ref a_18, .int i_11, .int i_12, .int i_13, .int i_14, .int i_15, .int i_16, .ref a_19, .int i_17, .ref a_20])), (a_5, .inl (cy 0, 600, .inl f_0))]) hS
      have w30 := hw
      refine lv_iload_n hx hb dX12_isRoom_14 rfl (lv_at hl 1 rfl) ?_
      refine lv_if_eq (tgt := 29) hx hb dX12_isRoom_15 (by decide) (fun c31 => ?_) (fun c31 => ?_)
      · exact mm_eqN c31.symm mm_k0 mm_k1 (by decide)
      · refine lv_aload_n hx hb dX12_isRoom_18 rfl (lv_at hl 0 rfl) ?_
        refine va_get (D := G) (ci := 12) (v := .int n28) (C := RX12) (T := TX12) (N := 38) hx hb hts (mm_i inlX12) hown hK.1 hP 0 rfl rfl 12 (by decide) (mm_h hts mm_w436) (fun _ h9 => h9) rfl dX12_isRoom_19 ?_
        refine lv_if_ne (tgt := 29) hx hb dX12_isRoom_22 (by decide) (fun c32 => ?_) (fun c32 => ?_)
        · refine lv_iload_n hx hb dX12_isRoom_29 rfl (lv_at hl 1 rfl) ?_
          refine lv_if_eq (tgt := 44) hx hb dX12_isRoom_30 (by decide) (fun c33 => ?_) (fun c33 => ?_)
          · exact mm_eqN c33.symm mm_k0 mm_k1 (by decide)
          · refine lv_aload_n hx hb dX12_isRoom_33 rfl (lv_at hl 0 rfl) ?_
            refine va_get (D := G) (ci := 12) (v := .int n28) (C := RX12) (T := TX12) (N := 38) hx hb hts (mm_i inlX12) hown hK.1 hP 0 rfl rfl 12 (by decide) (mm_h hts mm_w436) (fun _ h9 => h9) rfl dX12_isRoom_34 ?_
            refine lv_if_ne (tgt := 44) hx hb dX12_isRoom_37 (by decide) (fun c34 => ?_) (fun c34 => ?_)
            · refine lv_iconst (v := 0) hx hb dX12_isRoom_44 (by decide) ?_
              have w35 : (i_5 : Int32).toInt ≤ (i_5 : Int32).toInt := (Int.le_refl _)
              subst hAe
              rw [hQ]
              exact W.zret (v := 0) hx hb hr rfl (fun t ht hW => ⟨⟨0, (i_3, i_4, i_5, i_6, j_0, n28, n29), rfl, ⟨h2, h3, h4, (mm_wk w30 (by decide)), h7, h8, h9, w35, (Or.inl ⟨rfl, (mm_wk q27 (by decide))⟩)⟩, by rw [ht]; exact hP, hK.warm hW, hD⟩, hS.F ht⟩) hS.2.2 dX12_isRoom_45
            · exact mm_eqN c34.symm mm_k0 w30 (by decide)
        · exact mm_eqN c32.symm mm_k0 w30 (by decide)

set_option maxHeartbeats 4000000 in
set_option maxRecDepth 100000 in
theorem M70_X12_tells (l : Launch) (G : va_G) (cy : Nat → ClassId) (sz : Nat) (a_0 : Nat) (i_0 : Int32) (i_1 : Int32) (a_1 : Nat) (a_2 : Nat) (a_3 : Nat) (a_4 : Nat) (a_5 : Nat) (i_2 : Int32) (i_3 : Int32) (i_4 : Int32) (i_5 : Int32) (i_6 : Int32) (j_0 : Int64) (i_7 : Int32) (i_8 : Int32) (i_9 : Int32) (i_10 : Int32) (a_6 : Nat) (a_7 : Nat) (a_8 : Nat) (a_9 : Nat) (a_10 : Nat) (a_11 : Nat) (a_12 : Nat) (a_13 : Nat) (a_14 : Nat) (a_15 : Nat) (a_16 : Nat) (a_17 : Nat) (a_18 : Nat) (i_11 : Int32) (i_12 : Int32) (i_13 : Int32) (i_14 : Int32) (i_15 : Int32) (i_16 : Int32) (a_19 : Nat) (i_17 : Int32) (a_20 : Nat) (i_18 : Int32) (i_19 : Int32) (i_20 : Int32) (i_21 : Int32) (i_22 : Int32) (i_23 : Int32) (i_24 : Int32) (i_25 : Int32) (i_26 : Int32) (i_27 : Int32) (i_28 : Int32) (i_29 : Int32) (i_30 : Int32) (i_31 : Int32) (i_32 : Int32) (i_33 : Int32) (i_34 : Int32) (i_35 : Int32) (i_36 : Int32) (i_37 : Int32) (i_38 : Int32) (i_39 : Int32) (i_40 : Int32) (i_41 : Int32) (i_42 : Int32) (i_43 : Int32) (i_44 : Int32) (i_45 : Int32) (i_46 : Int32) (i_47 : Int32) (h0 : mm_rg i_0 2 6) (h1 : mm_rg i_18 0 10) (h2 : mm_rg i_19 0 99) (h3 : mm_rg i_20 0 9) (h4 : mm_rg i_21 0 3) (h5 : mm_rg i_22 0 6) (h6 : mm_rg i_23 0 30) (h7 : mm_rg i_24 0 10) (h8 : mm_rg i_25 0 99) (h9 : mm_rg i_26 0 9) (h10 : mm_rg i_27 0 3) (h11 : mm_rg i_28 0 6) (h12 : mm_rg i_29 0 30) (h13 : mm_rg i_30 0 10) (h14 : mm_rg i_31 0 99) (h15 : mm_rg i_32 0 9) (h16 : mm_rg i_33 0 3) (h17 : mm_rg i_34 0 6) (h18 : mm_rg i_35 0 30) (h19 : mm_rg i_36 0 10) (h20 : mm_rg i_37 0 99) (h21 : mm_rg i_38 0 9) (h22 : mm_rg i_39 0 3) (h23 : mm_rg i_40 0 6) (h24 : mm_rg i_41 0 30) (h25 : mm_rg i_42 0 10) (h26 : mm_rg i_43 0 99) (h27 : mm_rg i_44 0 9) (h28 : mm_rg i_45 0 3) (h29 : mm_rg i_46 0 6) (h30 : mm_rg i_47 0 30)  : mm_CV l yX12_tells (mm_ws yX12_tells cX12_tells 3 (none)) ({ frames := 0, cells := 0, slots := 0, locals := 0 } : Room) G cy sz [(a_0, .inr (12, [.int i_1, .ref a_1, .ref a_2, .ref a_3, .ref a_4, .ref a_5, .int i_2, .int i_3, .int i_4, .int i_5, .int i_6, .long j_0, .int i_7, .int i_8, .int i_9, .int i_10, .ref a_6, .ref a_7, .ref a_8, .ref a_9, .ref a_10, .ref a_11, .ref a_12, .ref a_13, .ref a_14, .ref a_15, .ref a_16, .ref a_17, .ref a_18, .int i_11, .int i_12, .int i_13, .int i_14, .int i_15, .int i_16, .ref a_19, .int i_17, .ref a_20])), (a_7, .inl (cy 1, 30, .inl (mm_g [i_18, i_19, i_20, i_21, i_22, i_23, i_24, i_25, i_26, i_27, i_28, i_29, i_30, i_31, i_32, i_33, i_34, i_35, i_36, i_37, i_38, i_39, i_40, i_41, i_42, i_43, i_44, i_45, i_46, i_47])))] [.ref a_0, .int 4, .int i_0] (fun u : Unit => [(a_0, .inr (12, [.int i_1, .ref a_1, .ref a_2, .ref a_3, .ref a_4, .ref a_5, .int i_2, .int i_3, .int i_4, .int i_5, .int i_6, .long j_0, .int i_7, .int i_8, .int i_9, .int i_10, .ref a_6, .ref a_7, .ref a_8, .ref a_9, .ref a_10, .ref a_11, .ref a_12, .ref a_13, .ref a_14, .ref a_15, .ref a_16, .ref a_17, .ref a_18, .int i_11, .int i_12, .int i_13, .int i_14, .int i_15, .int i_16, .ref a_19, .int i_17, .ref a_20])), (a_7, .inl (cy 1, 30, .inl (mm_g [i_18, i_19, i_20, i_21, i_22, i_23, i_24, i_25, i_26, i_27, i_28, i_29, i_30, i_31, i_32, i_33, i_34, i_35, i_36, i_37, i_38, i_39, i_40, i_41, i_42, i_43, i_44, i_45, i_0, i_47])))]) (fun u : Unit => True) 0 0 := by
  refine mm_begin (lv := [(0, .ref a_0), (1, .int 4), (2, .int i_0)]) (by decide) (Nat.le_of_ble_eq_true rfl) rfl ?_
  intro p e s m below meth c A ls R args Q H locs hRe hQ hAe hx hb hr hlocks hml hown hnm hts hsz hA hS hP hK hD hZ hl
  have hRf : R.frames = 0 := by rw [hRe]
  have hRl : R.locals = 0 := by rw [hRe]
  have hRc : R.cells = 0 := by rw [hRe]
  have hRs : R.slots = 0 := by rw [hRe]
  refine lv_aload_n hx hb dX12_tells_0 rfl (lv_at hl 0 rfl) ?_
  refine va_get (D := G) (ci := 12) (v := .ref a_7) (C := RX12) (T := TX12) (N := 38) hx hb hts (mm_i inlX12) hown hK.1 hP 0 rfl rfl 17 (by decide) (mm_h hts mm_w149) (fun _ h9 => h9) rfl dX12_tells_1 ?_
  refine lv_bipush (v := 24) hx hb dX12_tells_4 (by decide) ?_
  refine lv_iload_n hx hb dX12_tells_6 rfl (lv_at hl 1 rfl) ?_
  refine lv_iadd hx hb dX12_tells_7 ?_
  refine lv_topi (fun v1 ev1 => ?_)
  obtain rfl : v1 = 28 := ev1.trans (by decide)
  refine lv_iload_n hx hb dX12_tells_8 rfl (lv_at hl 2 rfl) ?_
  refine va_iast hx hb hK.1 hP hD hS 1 1 rfl rfl (mm_in mm_k28 (by decide)) dX12_tells_9 ?_
  clear hP hD hS
  clear H locs
  rw [show upd (mm_g [i_18, i_19, i_20, i_21, i_22, i_23, i_24, i_25, i_26, i_27, i_28, i_29, i_30, i_31, i_32, i_33, i_34, i_35, i_36, i_37, i_38, i_39, i_40, i_41, i_42, i_43, i_44, i_45, i_46, i_47]) (28 : Int32).toNatClampNeg i_0 = (mm_g [i_18, i_19, i_20, i_21, i_22, i_23, i_24, i_25, i_26, i_27, i_28, i_29, i_30, i_31, i_32, i_33, i_34, i_35, i_36, i_37, i_38, i_39, i_40, i_41, i_42, i_43, i_44, i_45, i_0, i_47]) from mm_gs2 28 30 (by decide) rfl rfl rfl]
  intro H locs (hP : va_P G vwCl [(a_0, .inr (12, [.int i_1, .ref a_1, .ref a_2, .ref a_3, .ref a_4, .ref a_5, .int i_2, .int i_3, .int i_4, .int i_5, .int i_6, .long j_0, .int i_7, .int i_8, .int i_9, .int i_10, .ref a_6, .ref a_7, .ref a_8, .ref a_9, .ref a_10, .ref a_11, .ref a_12, .ref a_13, .ref a_14, .ref a_15, .ref a_16, .ref a_17, .ref a_18, .int i_11, .int i_12, .int i_13, .int i_14, .int i_15, .int i_16, .ref a_19, .int i_17, .ref a_20])), (a_7, .inl (cy 1, 30, .inl (mm_g [i_18, i_19, i_20, i_21, i_22, i_23, i_24, i_25, i_26, i_27, i_28, i_29, i_30, i_31, i_32, i_33, i_34, i_35, i_36, i_37, i_38, i_39, i_40, i_41, i_42, i_43, i_44, i_45, i_0, i_47])))] H) (hD : va_D A [(a_0, .inr (12, [.int i_1, .ref a_1, .ref a_2, .ref a_3, .ref a_4, .ref a_5, .int i_2, .int i_3, .int i_4, .int i_5, .int i_6, .long j_0, .int i_7, .int i_8, .int i_9, .int i_10, .ref a_6, .ref a_7, .ref a_8, .ref a_9, .ref a_10, .ref a_11, .ref a_12, .ref a_13, .ref a_14, .ref a_15, .ref a_16, .ref a_17, .ref a_18, .int i_11, .int i_12, .int i_13, .int i_14, .int i_15, .int i_16, .ref a_19, .int i_17, .ref a_20])), (a_7, .inl (cy 1, 30, .inl (mm_g [i_18, i_19, i_20, i_21, i_22, i_23, i_24, i_25, i_26, i_27, i_28, i_29, i_30, i_31, i_32, i_33, i_34, i_35, i_36, i_37, i_38, i_39, i_40, i_41, i_42, i_43, i_44, i_45, i_0, i_47])))]) hS
  subst hAe
  rw [hQ]
  exact W.vret hx hb hr (fun t ht hW => ⟨⟨(), rfl, trivial, by rw [ht]; exact hP, hK.warm hW, hD⟩, hS.F ht⟩) hS.2.2 dX12_tells_10

set_option maxHeartbeats 4000000 in
set_option maxRecDepth 100000 in
theorem M71_X12_textLine (l : Launch) (G : va_G) (cy : Nat → ClassId) (sz : Nat) (a_0 : Nat) (i_0 : Int32) (a_1 : Nat) (a_2 : Nat) (a_3 : Nat) (a_4 : Nat) (a_5 : Nat) (i_1 : Int32) (i_2 : Int32) (i_3 : Int32) (i_4 : Int32) (i_5 : Int32) (j_0 : Int64) (i_6 : Int32) (i_7 : Int32) (i_8 : Int32) (i_9 : Int32) (a_6 : Nat) (a_7 : Nat) (a_8 : Nat) (a_9 : Nat) (a_10 : Nat) (a_11 : Nat) (a_12 : Nat) (a_13 : Nat) (a_14 : Nat) (a_15 : Nat) (a_16 : Nat) (a_17 : Nat) (a_18 : Nat) (i_10 : Int32) (i_11 : Int32) (i_12 : Int32) (i_13 : Int32) (i_14 : Int32) (i_15 : Int32) (a_19 : Nat) (i_16 : Int32) (a_20 : Nat) (f_0 : Nat → Int32) (i_17 : Int32) (i_18 : Int32) (i_19 : Int32) (i_20 : Int32) (i_21 : Int32) (i_22 : Int32) (i_23 : Int32) (i_24 : Int32) (i_25 : Int32) (i_26 : Int32) (i_27 : Int32) (i_28 : Int32) (i_29 : Int32) (i_30 : Int32) (i_31 : Int32) (i_32 : Int32) (i_33 : Int32) (i_34 : Int32) (i_35 : Int32) (i_36 : Int32) (i_37 : Int32) (i_38 : Int32) (i_39 : Int32) (i_40 : Int32) (i_41 : Int32) (i_42 : Int32) (i_43 : Int32) (i_44 : Int32) (i_45 : Int32) (i_46 : Int32) (f_1 : Nat → Int32) (f_2 : Nat → Int32) (h0 : mm_rg i_1 0 600) (h1 : mm_rg i_2 0 600) (h2 : mm_rg i_3 0 4) (h3 : mm_rg i_4 0 600) (h4 : mm_rg i_6 0 3) (h5 : mm_ar f_0 (-128) 127) (h6 : mm_rg i_17 0 10) (h7 : mm_rg i_18 0 99) (h8 : mm_rg i_19 0 9) (h9 : mm_rg i_20 0 3) (h10 : mm_rg i_21 0 6) (h11 : mm_rg i_22 0 30) (h12 : mm_rg i_23 0 10) (h13 : mm_rg i_24 0 99) (h14 : mm_rg i_25 0 9) (h15 : mm_rg i_26 0 3) (h16 : mm_rg i_27 0 6) (h17 : mm_rg i_28 0 30) (h18 : mm_rg i_29 0 10) (h19 : mm_rg i_30 0 99) (h20 : mm_rg i_31 0 9) (h21 : mm_rg i_32 0 3) (h22 : mm_rg i_33 0 6) (h23 : mm_rg i_34 0 30) (h24 : mm_rg i_35 0 10) (h25 : mm_rg i_36 0 99) (h26 : mm_rg i_37 0 9) (h27 : mm_rg i_38 0 3) (h28 : mm_rg i_39 0 6) (h29 : mm_rg i_40 0 30) (h30 : mm_rg i_41 0 10) (h31 : mm_rg i_42 0 99) (h32 : mm_rg i_43 0 9) (h33 : mm_rg i_44 0 3) (h34 : mm_rg i_45 1 5) (h35 : mm_rg i_46 0 30) (h36 : mm_ar f_1 0 8) (h37 : mm_ar f_2 0 9) (h38 : mm_txs f_1 f_2 0 i_19 i_21) (h39 : mm_txs f_1 f_2 1 i_25 i_27) (h40 : mm_txs f_1 f_2 2 i_31 i_33) (h41 : mm_txs f_1 f_2 3 i_37 i_39) (h42 : (i_4 : Int32).toInt ≤ (i_2 : Int32).toInt) (h43 : (i_2 : Int32).toInt ≤ (i_1 : Int32).toInt) (h44 : mm_tk i_3 i_4 i_2) (h45 : mm_txs f_1 f_2 4 i_43 i_45)  : mm_CV l yX12_textLine (mm_ws yX12_textLine cX12_textLine 3 (none)) ({ frames := 4, cells := 0, slots := 0, locals := 87 } : Room) G cy sz [(a_0, .inr (12, [.int i_0, .ref a_1, .ref a_2, .ref a_3, .ref a_4, .ref a_5, .int i_1, .int i_2, .int i_3, .int i_4, .int i_5, .long j_0, .int i_6, .int i_7, .int i_8, .int i_9, .ref a_6, .ref a_7, .ref a_8, .ref a_9, .ref a_10, .ref a_11, .ref a_12, .ref a_13, .ref a_14, .ref a_15, .ref a_16, .ref a_17, .ref a_18, .int i_10, .int i_11, .int i_12, .int i_13, .int i_14, .int i_15, .ref a_19, .int i_16, .ref a_20])), (a_5, .inl (cy 0, 600, .inl f_0)), (a_7, .inl (cy 1, 30, .inl (mm_g [i_17, i_18, i_19, i_20, i_21, i_22, i_23, i_24, i_25, i_26, i_27, i_28, i_29, i_30, i_31, i_32, i_33, i_34, i_35, i_36, i_37, i_38, i_39, i_40, i_41, i_42, i_43, i_44, i_45, i_46]))), (a_11, .inl (cy 1, 30, .inl f_1)), (a_12, .inl (cy 1, 240, .inl f_2))] [.ref a_0] (fun u : Int32 × Int32 × Int32 × Int32 × Int64 × Int32 × Int32 × Int32 × (Nat → Int32) × (Nat → Int32) => [(a_0, .inr (12, [.int i_0, .ref a_1, .ref a_2, .ref a_3, .ref a_4, .ref a_5, .int i_1, .int u.1, .int u.2.1, .int u.2.2.1, .int u.2.2.2.1, .long u.2.2.2.2.1, .int u.2.2.2.2.2.1, .int u.2.2.2.2.2.2.1, .int i_8, .int i_9, .ref a_6, .ref a_7, .ref a_8, .ref a_9, .ref a_10, .ref a_11, .ref a_12, .ref a_13, .ref a_14, .ref a_15, .ref a_16, .ref a_17, .ref a_18, .int i_10, .int i_11, .int i_12, .int i_13, .int i_14, .int i_15, .ref a_19, .int i_16, .ref a_20])), (a_5, .inl (cy 0, 600, .inl f_0)), (a_7, .inl (cy 1, 30, .inl (mm_g [i_17, i_18, i_19, i_20, i_21, i_22, i_23, i_24, i_25, i_26, i_27, i_28, i_29, i_30, i_31, i_32, i_33, i_34, i_35, i_36, i_37, i_38, i_39, i_40, i_41, i_42, i_43, i_44, u.2.2.2.2.2.2.2.1, i_46]))), (a_11, .inl (cy 1, 30, .inl u.2.2.2.2.2.2.2.2.1)), (a_12, .inl (cy 1, 240, .inl u.2.2.2.2.2.2.2.2.2))]) (fun u : Int32 × Int32 × Int32 × Int32 × Int64 × Int32 × Int32 × Int32 × (Nat → Int32) × (Nat → Int32) => mm_rg u.1 0 600 ∧ mm_rg u.2.1 0 4 ∧ mm_rg u.2.2.1 0 600 ∧ mm_rg u.2.2.2.2.2.1 0 3 ∧ mm_rg u.2.2.2.2.2.2.2.1 2 6 ∧ mm_ar u.2.2.2.2.2.2.2.2.1 0 8 ∧ mm_ar u.2.2.2.2.2.2.2.2.2 0 9 ∧ mm_txs u.2.2.2.2.2.2.2.2.1 u.2.2.2.2.2.2.2.2.2 0 i_19 i_21 ∧ mm_txs u.2.2.2.2.2.2.2.2.1 u.2.2.2.2.2.2.2.2.2 1 i_25 i_27 ∧ mm_txs u.2.2.2.2.2.2.2.2.1 u.2.2.2.2.2.2.2.2.2 2 i_31 i_33 ∧ mm_txs u.2.2.2.2.2.2.2.2.1 u.2.2.2.2.2.2.2.2.2 3 i_37 i_39 ∧ (u.2.2.1 : Int32).toInt ≤ (u.1 : Int32).toInt ∧ (u.1 : Int32).toInt ≤ (i_1 : Int32).toInt ∧ mm_tk u.2.1 u.2.2.1 u.1 ∧ (i_4 : Int32).toInt ≤ (u.2.2.1 : Int32).toInt ∧ mm_txs u.2.2.2.2.2.2.2.2.1 u.2.2.2.2.2.2.2.2.2 4 i_43 u.2.2.2.2.2.2.2.1 ∧ mm_fr f_1 u.2.2.2.2.2.2.2.2.1 24 ∧ mm_fr f_2 u.2.2.2.2.2.2.2.2.2 192) 0 0 := by
  refine mm_begin (lv := [(0, .ref a_0)]) (by decide) (Nat.le_of_ble_eq_true rfl) rfl ?_
  intro p e s m below meth c A ls R args Q H locs hRe hQ hAe hx hb hr hlocks hml hown hnm hts hsz hA hS hP hK hD hZ hl
  have hRf : R.frames = 4 := by rw [hRe]
  have hRl : R.locals = 87 := by rw [hRe]
  have hRc : R.cells = 0 := by rw [hRe]
  have hRs : R.slots = 0 := by rw [hRe]
  refine lv_bipush (v := 24) hx hb dX12_textLine_0 (by decide) ?_
  refine lv_aload_n hx hb dX12_textLine_2 rfl (lv_at hl 0 rfl) ?_
  refine lv_iconst (v := 4) hx hb dX12_textLine_3 (by decide) ?_
  refine mm_finir (va_runV (As := [.int 4]) (rest := [.int 24]) ⟨hx, hb, hml, hown, hts⟩ (M43_X12_hasRead l G cy H.size a_0 i_0 a_1 a_2 a_3 a_4 a_5 i_1 i_2 i_3 i_4 i_5 j_0 i_6 i_7 i_8 i_9 a_6 a_7 a_8 a_9 a_10 a_11 a_12 a_13 a_14 a_15 a_16 a_17 a_18 i_10 i_11 i_12 i_13 i_14 i_15 a_19 i_16 a_20 i_17 i_18 i_19 i_20 i_21 i_22 i_23 i_24 i_25 i_26 i_27 i_28 i_29 i_30 i_31 i_32 i_33 i_34 i_35 i_36 i_37 i_38 i_39 i_40 i_41 i_42 i_43 i_44 i_45 i_46 h6 h7 h8 h9 h10 h11 h12 h13 h14 h15 h16 h17 h18 h19 h20 h21 h22 h23 h24 h25 h26 h27 h28 h29 h30 h31 h32 h33 (mm_wk h34 (by decide)) h35) (cwV 1 hts (mm_gV mm_w503 mm_w504 mm_w505 mm_w5 mm_w506) rfl rfl rfl hd_X12_hasRead ⟨by rw [hRf]; exact Nat.le_of_ble_eq_true rfl, by rw [hRl]; exact Nat.le_of_ble_eq_true rfl⟩) (mm_preV hK hZ hS hA hP hD [0, 2] rfl rfl 0 rfl rfl rfl) rfl rfl hl.1 rfl (lv_room (Nat.le_of_ble_eq_true rfl)) dX12_textLine_4 ⟨by rw [hRc]; exact Nat.le_of_ble_eq_true rfl, by rw [hRs]; exact Nat.le_of_ble_eq_true rfl⟩) hP hD hS hA [0, 2] rfl (fun _ => rfl) ?_
  clear hP hD hS
  clear H locs
  intro v1 _u H locs hw hP hD hS
  subst hw
  refine lv_iadd hx hb dX12_textLine_7 ?_
  refine lv_topi (fun v2 ev2 => ?_)
  have rv2 : mm_rg v2 25 29 := mm_add ev2 mm_k24 h34 (by decide) (by decide)
  have tv2 := mm_addEd ev2 mm_k24 h34 (by decide) (k := 24) (by decide)
  refine lv_istore_n (lv' := [(1, .int v2), (0, .ref a_0)]) hx hb dX12_textLine_8 rfl hl (by decide) rfl ?_
  clear hl
  clear ls
  intro ls hl
  refine lv_aload_n hx hb dX12_textLine_9 rfl (lv_at hl 1 rfl) ?_
  refine va_get (D := G) (ci := 12) (v := .ref a_11) (C := RX12) (T := TX12) (N := 38) hx hb hts (mm_i inlX12) hown hK.1 hP 0 rfl rfl 21 (by decide) (mm_h hts mm_w153) (fun _ h9 => h9) rfl dX12_textLine_10 ?_
  refine lv_iload_n hx hb dX12_textLine_13 rfl (lv_at hl 0 rfl) ?_
  refine lv_iconst (v := 0) hx hb dX12_textLine_14 (by decide) ?_
  refine va_iast hx hb hK.1 hP hD hS 3 1 rfl rfl (mm_in rv2 (by decide)) dX12_textLine_15 ?_
  clear hP hD hS
  clear H locs
  obtain ⟨g3, eg3⟩ : ∃ z : Nat → Int32, z = upd f_1 v2.toNatClampNeg 0 := ⟨_, rfl⟩
  rw [← eg3]
  intro H locs (hP : va_P G vwCl [(a_0, .inr (12, [.int i_0, .ref a_1, .ref a_2, .ref a_3, .ref a_4, .ref a_5, .int i_1, .int i_2, .int i_3, .int i_4, .int i_5, .long j_0, .int i_6, .int i_7, .int i_8, .int i_9, .ref a_6, .ref a_7, .ref a_8, .ref a_9, .ref a_10, .ref a_11, .ref a_12, .ref a_13, .ref a_14, .ref a_15, .ref a_16, .ref a_17, .ref a_18, .int i_10, .int i_11, .int i_12, .int i_13, .int i_14, .int i_15, .ref a_19, .int i_16, .ref a_20])), (a_5, .inl (cy 0, 600, .inl f_0)), (a_7, .inl (cy 1, 30, .inl (mm_g [i_17, i_18, i_19, i_20, i_21, i_22, i_23, i_24, i_25, i_26, i_27, i_28, i_29, i_30, i_31, i_32, i_33, i_34, i_35, i_36, i_37, i_38, i_39, i_40, i_41, i_42, i_43, i_44, i_45, i_46]))), (a_11, .inl (cy 1, 30, .inl g3)), (a_12, .inl (cy 1, 240, .inl f_2))] H) (hD : va_D A [(a_0, .inr (12, [.int i_0, .ref a_1, .ref a_2, .ref a_3, .ref a_4, .ref a_5, .int i_1, .int i_2, .int i_3, .int i_4, .int i_5, .long j_0, .int i_6, .int i_7, .int i_8, .int i_9, .ref a_6, .ref a_7, .ref a_8, .ref a_9, .ref a_10, .ref a_11, .ref a_12, .ref a_13, .ref a_14, .ref a_15, .ref a_16, .ref a_17, .ref a_18, .int i_10, .int i_11, .int i_12, .int i_13, .int i_14, .int i_15, .ref a_19, .int i_16, .ref a_20])), (a_5, .inl (cy 0, 600, .inl f_0)), (a_7, .inl (cy 1, 30, .inl (mm_g [i_17, i_18, i_19, i_20, i_21, i_22, i_23, i_24, i_25, i_26, i_27, i_28, i_29, i_30, i_31, i_32, i_33, i_34, i_35, i_36, i_37, i_38, i_39, i_40, i_41, i_42, i_43, i_44, i_45, i_46]))), (a_11, .inl (cy 1, 30, .inl g3)), (a_12, .inl (cy 1, 240, .inl f_2))]) hS
  have rg3 : mm_ar g3 0 8 := by rw [eg3]; exact mm_ar_upd (mm_ar_wk h36 (by decide)) (mm_wk mm_k0 (by decide)) _
  refine lv_aload_n hx hb dX12_textLine_16 rfl (lv_at hl 1 rfl) ?_
  refine mm_fini (va_runV (As := []) (rest := []) ⟨hx, hb, hml, hown, hts⟩ (M48_X12_wordHere l G cy H.size a_0 i_0 a_1 a_2 a_3 a_4 a_5 i_1 i_2 i_3 i_4 i_5 j_0 i_6 i_7 i_8 i_9 a_6 a_7 a_8 a_9 a_10 a_11 a_12 a_13 a_14 a_15 a_16 a_17 a_18 i_10 i_11 i_12 i_13 i_14 i_15 a_19 i_16 a_20 f_0 i_17 i_18 i_19 i_20 i_21 i_22 i_23 i_24 i_25 i_26 i_27 i_28 i_29 i_30 i_31 i_32 i_33 i_34 i_35 i_36 i_37 i_38 i_39 i_40 i_41 i_42 i_43 i_44 i_45 i_46 h0 h1 h2 h3 h4 h5 h6 h7 h8 h9 h10 h11 h12 h13 h14 h15 h16 h17 h18 h19 h20 h21 h22 h23 h24 h25 h26 h27 h28 h29 h30 h31 h32 h33 (mm_wk h34 (by decide)) h35 h42 h43 h44) (cwV 0 hts (mm_gV mm_w532 mm_w533 mm_w534 mm_w5 mm_w535) rfl rfl rfl hd_X12_wordHere ⟨by rw [hRf]; exact Nat.le_of_ble_eq_true rfl, by rw [hRl]; exact Nat.le_of_ble_eq_true rfl⟩) (mm_preV hK hZ hS hA hP hD [0, 1, 2] rfl rfl 0 rfl rfl rfl) rfl rfl hl.1 rfl (lv_room (Nat.le_of_ble_eq_true rfl)) dX12_textLine_17 ⟨by rw [hRc]; exact Nat.le_of_ble_eq_true rfl, by rw [hRs]; exact Nat.le_of_ble_eq_true rfl⟩) hP hD hS hA (fun u : Int32 × Int32 × Int32 × Int32 × Int64 × Int32 × Int32 => [(a_0, .inr (12, [.int i_0, .ref a_1, .ref a_2, .ref a_3, .ref a_4, .ref a_5, .int i_1, .int u.1, .int u.2.1, .int u.2.2.1, .int u.2.2.2.1, .long u.2.2.2.2.1, .int u.2.2.2.2.2.1, .int u.2.2.2.2.2.2, .int i_8, .int i_9, .ref a_6, .ref a_7, .ref a_8, .ref a_9, .ref a_10, .ref a_11, .ref a_12, .ref a_13, .ref a_14, .ref a_15, .ref a_16, .ref a_17, .ref a_18, .int i_10, .int i_11, .int i_12, .int i_13, .int i_14, .int i_15, .ref a_19, .int i_16, .ref a_20])), (a_5, .inl (cy 0, 600, .inl f_0)), (a_7, .inl (cy 1, 30, .inl (mm_g [i_17, i_18, i_19, i_20, i_21, i_22, i_23, i_24, i_25, i_26, i_27, i_28, i_29, i_30, i_31, i_32, i_33, i_34, i_35, i_36, i_37, i_38, i_39, i_40, i_41, i_42, i_43, i_44, i_45, i_46]))), (a_11, .inl (cy 1, 30, .inl g3)), (a_12, .inl (cy 1, 240, .inl f_2))]) [0, 1, 2] [3, 4] (n := 5) (fun _ => rfl) (by decide +kernel) (by decide +kernel) rfl (fun _ => rfl) (wr := [(a_11, .inl (cy 1, 30, .inl g3)), (a_12, .inl (cy 1, 240, .inl f_2))]) rfl (fun _ => rfl) (fun _ => @rfl _ ([a_0, a_5, a_7] : List Nat)) ?_
  clear hP hD hS
  clear H locs
  intro v11 u
  obtain ⟨n4, n5, n6, n7, n8, n9, n10⟩ := u
  intro H locs hw (hP : va_P G vwCl [(a_0, .inr (12, [.int i_0, .ref a_1, .ref a_2, .ref a_3, .ref a_4, .ref a_5, .int i_1, .int n4, .int n5, .int n6, .int n7, .long n8, .int n9, .int n10, .int i_8, .int i_9, .ref a_6, .ref a_7, .ref a_8, .ref a_9, .ref a_10, .ref a_11, .ref a_12, .ref a_13, .ref a_14, .ref a_15, .ref a_16, .ref a_17, .ref a_18, .int i_10, .int i_11, .int i_12, .int i_13, .int i_14, .int i_15, .ref a_19, .int i_16, .ref a_20])), (a_5, .inl (cy 0, 600, .inl f_0)), (a_7, .inl (cy 1, 30, .inl (mm_g [i_17, i_18, i_19, i_20, i_21, i_22, i_23, i_24, i_25, i_26, i_27, i_28, i_29, i_30, i_31, i_32, i_33, i_34, i_35, i_36, i_37, i_38, i_39, i_40, i_41, i_42, i_43, i_44, i_45, i_46]))), (a_11, .inl (cy 1, 30, .inl g3)), (a_12, .inl (cy 1, 240, .inl f_2))] H) (hD : va_D A [(a_0, .inr (12, [.int i_0, .ref a_1, .ref a_2, .ref a_3, .ref a_4, .ref a_5, .int i_1, .int n4, .int n5, .int n6, .int n7, .long n8, .int n9, .int n10, .int i_8, .int i_9, .ref a_6, .ref a_7, .ref a_8, .ref a_9, .ref a_10, .ref a_11, .ref a_12, .ref a_13, .ref a_14, .ref a_15, .ref a_16, .ref a_17, .ref a_18, .int i_10, .int i_11, .int i_12, .int i_13, .int i_14, .int i_15, .ref a_19, .int i_16, .ref a_20])), (a_5, .inl (cy 0, 600, .inl f_0)), (a_7, .inl (cy 1, 30, .inl (mm_g [i_17, i_18, i_19, i_20, i_21, i_22, i_23, i_24, i_25, i_26, i_27, i_28, i_29, i_30, i_31, i_32, i_33, i_34, i_35, i_36, i_37, i_38, i_39, i_40, i_41, i_42, i_43, i_44, i_45, i_46]))), (a_11, .inl (cy 1, 30, .inl g3)), (a_12, .inl (cy 1, 240, .inl f_2))]) hS
  obtain ⟨w12, w13, w14, w15, w16, w17, w18, w19, w20, hw⟩ := hw
  replace w16 : (n6 : Int32).toInt ≤ (n4 : Int32).toInt := w16
  replace w17 : (n4 : Int32).toInt ≤ (i_1 : Int32).toInt := w17
  replace w18 : mm_tk n5 n6 n4 := w18
  replace w19 : (i_4 : Int32).toInt ≤ (n6 : Int32).toInt := w19
  replace w20 : mm_b0 i_6 n9 := w20
  obtain ⟨w21, w22, w23⟩ := hw
  replace w22 : (v11 : Int32).toInt ≤ (i_43 : Int32).toInt := w22
  replace w23 : mm_nv n9 v11 i_3 i_5 := w23
  refine lv_istore_n (lv' := [(2, .int v11), (1, .int v2), (0, .ref a_0)]) hx hb dX12_textLine_20 rfl hl (by decide) rfl ?_
  clear hl
  clear ls
  intro ls hl
  have L21_133 : ∀ (n : Nat) (x21_2_115 : Int32) (y21_0_7_116 : Int32) (y21_0_8_117 : Int32) (y21_0_9_118 : Int32) (y21_0_10_119 : Int32) (y21_0_11_120 : Int64) (y21_0_12_121 : Int32) (y21_0_13_122 : Int32) (z21_3_123 : Nat → Int32) (z21_4_124 : Nat → Int32), mm_rg x21_2_115 0 9 → mm_rg y21_0_7_116 0 600 → mm_rg y21_0_8_117 0 4 → mm_rg y21_0_9_118 0 600 → mm_rg y21_0_12_121 0 3 → mm_ar z21_3_123 0 8 → mm_ar z21_4_124 0 9 → (y21_0_9_118 : Int32).toInt ≤ (y21_0_7_116 : Int32).toInt → (y21_0_7_116 : Int32).toInt ≤ (i_1 : Int32).toInt → mm_tk y21_0_8_117 y21_0_9_118 y21_0_7_116 → (i_4 : Int32).toInt ≤ (y21_0_9_118 : Int32).toInt → mm_b7 z21_3_123 v2 y21_0_12_121 → mm_fr f_1 z21_3_123 24 → mm_fr f_2 z21_4_124 192 → mm_txl f_1 f_2 z21_3_123 z21_4_124 v2 i_43 → (x21_2_115 : Int32).toInt ≤ (i_43 : Int32).toInt → (if (y21_0_12_121 : Int32).toInt = 0 then (8 - (z21_3_123 (v2 : Int32).toNatClampNeg).toInt).toNat + 1 else 0) < n → ∀ (H : Heap) (locs : List Loc), va_P G vwCl [(a_0, .inr (12, [.int i_0, .ref a_1, .ref a_2, .ref a_3, .ref a_4, .ref a_5, .int i_1, .int y21_0_7_116, .int y21_0_8_117, .int y21_0_9_118, .int y21_0_10_119, .long y21_0_11_120, .int y21_0_12_121, .int y21_0_13_122, .int i_8, .int i_9, .ref a_6, .ref a_7, .ref a_8, .ref a_9, .ref a_10, .ref a_11, .ref a_12, .ref a_13, .ref a_14, .ref a_15, .ref a_16, .ref a_17, .ref a_18, .int i_10, .int i_11, .int i_12, .int i_13, .int i_14, .int i_15, .ref a_19, .int i_16, .ref a_20])), (a_5, .inl (cy 0, 600, .inl f_0)), (a_7, .inl (cy 1, 30, .inl (mm_g [i_17, i_18, i_19, i_20, i_21, i_22, i_23, i_24, i_25, i_26, i_27, i_28, i_29, i_30, i_31, i_32, i_33, i_34, i_35, i_36, i_37, i_38, i_39, i_40, i_41, i_42, i_43, i_44, i_45, i_46]))), (a_11, .inl (cy 1, 30, .inl z21_3_123)), (a_12, .inl (cy 1, 240, .inl z21_4_124))] H → va_D A [(a_0, .inr (12, [.int i_0, .ref a_1, .ref a_2, .ref a_3, .ref a_4, .ref a_5, .int i_1, .int y21_0_7_116, .int y21_0_8_117, .int y21_0_9_118, .int y21_0_10_119, .long y21_0_11_120, .int y21_0_12_121, .int y21_0_13_122, .int i_8, .int i_9, .ref a_6, .ref a_7, .ref a_8, .ref a_9, .ref a_10, .ref a_11, .ref a_12, .ref a_13, .ref a_14, .ref a_15, .ref a_16, .ref a_17, .ref a_18, .int i_10, .int i_11, .int i_12, .int i_13, .int i_14, .int i_15, .ref a_19, .int i_16, .ref a_20])), (a_5, .inl (cy 0, 600, .inl f_0)), (a_7, .inl (cy 1, 30, .inl (mm_g [i_17, i_18, i_19, i_20, i_21, i_22, i_23, i_24, i_25, i_26, i_27, i_28, i_29, i_30, i_31, i_32, i_33, i_34, i_35, i_36, i_37, i_38, i_39, i_40, i_41, i_42, i_43, i_44, i_45, i_46]))), (a_11, .inl (cy 1, 30, .inl z21_3_123)), (a_12, .inl (cy 1, 240, .inl z21_4_124))] → va_S A s.heap H locs → ∀ (ls : Array Slot), lv_has ls 3 [(2, .int x21_2_115), (1, .int v2), (0, .ref a_0)] → W p l e R s m args below meth c H locs 0 0 Q (F0 m 21 ls []) := by
    intro n
    induction n with
    | zero => intro x21_2_115 y21_0_7_116 y21_0_8_117 y21_0_9_118 y21_0_10_119 y21_0_11_120 y21_0_12_121 y21_0_13_122 z21_3_123 z21_4_124 rx21_2_115 ry21_0_7_116 ry21_0_8_117 ry21_0_9_118 ry21_0_12_121 rz21_3_123 rz21_4_124 w125 w126 w127 w128 w129 w130 w131 w132 w133 hm; exact absurd hm (Nat.not_lt_zero _)
    | succ n ih21 =>
      intro x21_2_115 y21_0_7_116 y21_0_8_117 y21_0_9_118 y21_0_10_119 y21_0_11_120 y21_0_12_121 y21_0_13_122 z21_3_123 z21_4_124 rx21_2_115 ry21_0_7_116 ry21_0_8_117 ry21_0_9_118 ry21_0_12_121 rz21_3_123 rz21_4_124 w125 w126 w127 w128 w129 w130 w131 w132 w133 hm21 H locs hP hD hS ls hl
      refine lv_aload_n hx hb dX12_textLine_21 rfl (lv_at hl 2 rfl) ?_
      refine va_get (D := G) (ci := 12) (v := .int y21_0_12_121) (C := RX12) (T := TX12) (N := 38) hx hb hts (mm_i inlX12) hown hK.1 hP 0 rfl rfl 12 (by decide) (mm_h hts mm_w436) (fun _ h9 => h9) rfl dX12_textLine_22 ?_
      refine lv_if_ne (tgt := 106) hx hb dX12_textLine_25 (by decide) (fun c135 => ?_) (fun c135 => ?_)
      · have q136 := mm_neL (lo := 1) (mm_ne c135) ry21_0_12_121 mm_k0 (by decide) (by decide)
        refine lv_aload_n hx hb dX12_textLine_106 rfl (lv_at hl 2 rfl) ?_
        refine lv_iconst (v := 4) hx hb dX12_textLine_107 (by decide) ?_
        refine lv_aload_n hx hb dX12_textLine_108 rfl (lv_at hl 2 rfl) ?_
        refine lv_iconst (v := 4) hx hb dX12_textLine_109 (by decide) ?_
        refine mm_finir (va_runV (As := [.int 4]) (rest := [.int 4, .ref a_0]) ⟨hx, hb, hml, hown, hts⟩ (M43_X12_hasRead l G cy H.size a_0 i_0 a_1 a_2 a_3 a_4 a_5 i_1 y21_0_7_116 y21_0_8_117 y21_0_9_118 y21_0_10_119 y21_0_11_120 y21_0_12_121 y21_0_13_122 i_8 i_9 a_6 a_7 a_8 a_9 a_10 a_11 a_12 a_13 a_14 a_15 a_16 a_17 a_18 i_10 i_11 i_12 i_13 i_14 i_15 a_19 i_16 a_20 i_17 i_18 i_19 i_20 i_21 i_22 i_23 i_24 i_25 i_26 i_27 i_28 i_29 i_30 i_31 i_32 i_33 i_34 i_35 i_36 i_37 i_38 i_39 i_40 i_41 i_42 i_43 i_44 i_45 i_46 h6 h7 h8 h9 h10 h11 h12 h13 h14 h15 h16 h17 h18 h19 h20 h21 h22 h23 h24 h25 h26 h27 h28 h29 h30 h31 h32 h33 (mm_wk h34 (by decide)) h35) (cwV 1 hts (mm_gV mm_w503 mm_w504 mm_w505 mm_w5 mm_w506) rfl rfl rfl hd_X12_hasRead ⟨by rw [hRf]; exact Nat.le_of_ble_eq_true rfl, by rw [hRl]; exact Nat.le_of_ble_eq_true rfl⟩) (mm_preV hK hZ hS hA hP hD [0, 2] rfl rfl 0 rfl rfl rfl) rfl rfl hl.1 rfl (lv_room (Nat.le_of_ble_eq_true rfl)) dX12_textLine_110 ⟨by rw [hRc]; exact Nat.le_of_ble_eq_true rfl, by rw [hRs]; exact Nat.le_of_ble_eq_true rfl⟩) hP hD hS hA [0, 2] rfl (fun _ => rfl) ?_
        clear hP hD hS
        clear H locs
        intro v137 _u H locs hw hP hD hS
        subst hw
        refine lv_iconst (v := 1) hx hb dX12_textLine_113 (by decide) ?_
        refine lv_iadd hx hb dX12_textLine_114 ?_
        refine lv_topi (fun v138 ev138 => ?_)
        have rv138 : mm_rg v138 2 6 := mm_add ev138 h34 mm_k1 (by decide) (by decide)
        have tv138 := mm_addEc ev138 h34 mm_k1 (by decide) (k := 1) (by decide)
        refine mm_finv (va_runV (As := [.int 4, .int v138]) (rest := []) ⟨hx, hb, hml, hown, hts⟩ (M70_X12_tells l G cy H.size a_0 v138 i_0 a_1 a_2 a_3 a_4 a_5 i_1 y21_0_7_116 y21_0_8_117 y21_0_9_118 y21_0_10_119 y21_0_11_120 y21_0_12_121 y21_0_13_122 i_8 i_9 a_6 a_7 a_8 a_9 a_10 a_11 a_12 a_13 a_14 a_15 a_16 a_17 a_18 i_10 i_11 i_12 i_13 i_14 i_15 a_19 i_16 a_20 i_17 i_18 i_19 i_20 i_21 i_22 i_23 i_24 i_25 i_26 i_27 i_28 i_29 i_30 i_31 i_32 i_33 i_34 i_35 i_36 i_37 i_38 i_39 i_40 i_41 i_42 i_43 i_44 i_45 i_46 rv138 h6 h7 h8 h9 h10 h11 h12 h13 h14 h15 h16 h17 h18 h19 h20 h21 h22 h23 h24 h25 h26 h27 h28 h29 h30 h31 h32 h33 (mm_wk h34 (by decide)) h35) (cwV 2 hts (mm_gV mm_w441 mm_w442 mm_w443 mm_w5 mm_w444) rfl rfl rfl hd_X12_tells ⟨by rw [hRf]; exact Nat.le_of_ble_eq_true rfl, by rw [hRl]; exact Nat.le_of_ble_eq_true rfl⟩) (mm_preV hK hZ hS hA hP hD [0, 2] rfl rfl 0 rfl rfl rfl) rfl rfl hl.1 rfl (lv_room (Nat.le_of_ble_eq_true rfl)) dX12_textLine_115 ⟨by rw [hRc]; exact Nat.le_of_ble_eq_true rfl, by rw [hRs]; exact Nat.le_of_ble_eq_true rfl⟩) hP hD hS hA (fun u : Unit => [(a_0, .inr (12, [.int i_0, .ref a_1, .ref a_2, .ref a_3, .ref a_4, .ref a_5, .int i_1, .int y21_0_7_116, .int y21_0_8_117, .int y21_0_9_118, .int y21_0_10_119, .long y21_0_11_120, .int y21_0_12_121, .int y21_0_13_122, .int i_8, .int i_9, .ref a_6, .ref a_7, .ref a_8, .ref a_9, .ref a_10, .ref a_11, .ref a_12, .ref a_13, .ref a_14, .ref a_15, .ref a_16, .ref a_17, .ref a_18, .int i_10, .int i_11, .int i_12, .int i_13, .int i_14, .int i_15, .ref a_19, .int i_16, .ref a_20])), (a_5, .inl (cy 0, 600, .inl f_0)), (a_7, .inl (cy 1, 30, .inl (mm_g [i_17, i_18, i_19, i_20, i_21, i_22, i_23, i_24, i_25, i_26, i_27, i_28, i_29, i_30, i_31, i_32, i_33, i_34, i_35, i_36, i_37, i_38, i_39, i_40, i_41, i_42, i_43, i_44, v138, i_46]))), (a_11, .inl (cy 1, 30, .inl z21_3_123)), (a_12, .inl (cy 1, 240, .inl z21_4_124))]) [0, 2] [1, 3, 4] (n := 5) (fun _ => rfl) (by decide +kernel) (by decide +kernel) rfl (fun _ => rfl) (wr := [(a_5, .inl (cy 0, 600, .inl f_0)), (a_11, .inl (cy 1, 30, .inl z21_3_123)), (a_12, .inl (cy 1, 240, .inl z21_4_124))]) rfl (fun _ => rfl) (fun _ => @rfl _ ([a_0, a_7] : List Nat)) ?_
        clear hP hD hS
        clear H locs
        intro _u H locs hw (hP : va_P G vwCl [(a_0, .inr (12, [.int i_0, .ref a_1, .ref a_2, .ref a_3, .ref a_4, .ref a_5, .int i_1, .int y21_0_7_116, .int y21_0_8_117, .int y21_0_9_118, .int y21_0_10_119, .long y21_0_11_120, .int y21_0_12_121, .int y21_0_13_122, .int i_8, .int i_9, .ref a_6, .ref a_7, .ref a_8, .ref a_9, .ref a_10, .ref a_11, .ref a_12, .ref a_13, .ref a_14, .ref a_15, .ref a_16, .ref a_17, .ref a_18, .int i_10, .int i_11, .int i_12, .int i_13, .int i_14, .int i_15, .ref a_19, .int i_16, .ref a_20])), (a_5, .inl (cy 0, 600, .inl f_0)), (a_7, .inl (cy 1, 30, .inl (mm_g [i_17, i_18, i_19, i_20, i_21, i_22, i_23, i_24, i_25, i_26, i_27, i_28, i_29, i_30, i_31, i_32, i_33, i_34, i_35, i_36, i_37, i_38, i_39, i_40, i_41, i_42, i_43, i_44, v138, i_46]))), (a_11, .inl (cy 1, 30, .inl z21_3_123)), (a_12, .inl (cy 1, 240, .inl z21_4_124))] H) (hD : va_D A [(a_0, .inr (12, [.int i_0, .ref a_1, .ref a_2, .ref a_3, .ref a_4, .ref a_5, .int i_1, .int y21_0_7_116, .int y21_0_8_117, .int y21_0_9_118, .int y21_0_10_119, .long y21_0_11_120, .int y21_0_12_121, .int y21_0_13_122, .int i_8, .int i_9, .ref a_6, .ref a_7, .ref a_8, .ref a_9, .ref a_10, .ref a_11, .ref a_12, .ref a_13, .ref a_14, .ref a_15, .ref a_16, .ref a_17, .ref a_18, .int i_10, .int i_11, .int i_12, .int i_13, .int i_14, .int i_15, .ref a_19, .int i_16, .ref a_20])), (a_5, .inl (cy 0, 600, .inl f_0)), (a_7, .inl (cy 1, 30, .inl (mm_g [i_17, i_18, i_19, i_20, i_21, i_22, i_23, i_24, i_25, i_26, i_27, i_28, i_29, i_30, i_31, i_32, i_33, i_34, i_35, i_36, i_37, i_38, i_39, i_40, i_41, i_42, i_43, i_44, v138, i_46]))), (a_11, .inl (cy 1, 30, .inl z21_3_123)), (a_12, .inl (cy 1, 240, .inl z21_4_124))]) hS
        have w139 : mm_txs z21_3_123 z21_4_124 0 i_19 i_21 := (mm_txs_fr h38 w130 w131 (by decide))
        have w140 : mm_txs z21_3_123 z21_4_124 1 i_25 i_27 := (mm_txs_fr h39 w130 w131 (by decide))
        have w141 : mm_txs z21_3_123 z21_4_124 2 i_31 i_33 := (mm_txs_fr h40 w130 w131 (by decide))
        have w142 : mm_txs z21_3_123 z21_4_124 3 i_37 i_39 := (mm_txs_fr h41 w130 w131 (by decide))
        have w143 : mm_txs z21_3_123 z21_4_124 4 i_43 v138 := (mm_txs_t h45 w132 (by have := tv2; omega) (by have := tv138; omega) h34 (by decide))
        subst hAe
        rw [hQ]
        exact W.vret hx hb hr (fun t ht hW => ⟨⟨(y21_0_7_116, y21_0_8_117, y21_0_9_118, y21_0_10_119, y21_0_11_120, y21_0_12_121, y21_0_13_122, v138, z21_3_123, z21_4_124), rfl, ⟨ry21_0_7_116, ry21_0_8_117, ry21_0_9_118, (mm_wk q136 (by decide)), rv138, rz21_3_123, rz21_4_124, w139, w140, w141, w142, w125, w126, w127, w128, w143, w130, w131⟩, by rw [ht]; exact hP, hK.warm hW, hD⟩, hS.F ht⟩) hS.2.2 dX12_textLine_118
      · have q144 := mm_eqI (lo := 0) (hi := 0) c135 ry21_0_12_121 mm_k0 (by decide)
        refine lv_aload_n hx hb dX12_textLine_28 rfl (lv_at hl 2 rfl) ?_
        refine va_get (D := G) (ci := 12) (v := .ref a_12) (C := RX12) (T := TX12) (N := 38) hx hb hts (mm_i inlX12) hown hK.1 hP 0 rfl rfl 22 (by decide) (mm_h hts mm_w154) (fun _ h9 => h9) rfl dX12_textLine_29 ?_
        refine lv_bipush (v := 8) hx hb dX12_textLine_32 (by decide) ?_
        refine lv_iload_n hx hb dX12_textLine_34 rfl (lv_at hl 1 rfl) ?_
        refine lv_imul hx hb dX12_textLine_35 ?_
        refine lv_topi (fun v145 ev145 => ?_)
        have rv145 : mm_rg v145 200 232 := mm_mul ev145 mm_k8 rv2 (by decide) (by decide)
        have tv145 := mm_mulEc ev145 mm_k8 rv2 (by decide) (k := 8) (by decide)
        refine lv_aload_n hx hb dX12_textLine_36 rfl (lv_at hl 2 rfl) ?_
        refine va_get (D := G) (ci := 12) (v := .ref a_11) (C := RX12) (T := TX12) (N := 38) hx hb hts (mm_i inlX12) hown hK.1 hP 0 rfl rfl 21 (by decide) (mm_h hts mm_w153) (fun _ h9 => h9) rfl dX12_textLine_37 ?_
        refine lv_iload_n hx hb dX12_textLine_40 rfl (lv_at hl 1 rfl) ?_
        refine va_iald hx hb hK.1 hP 3 1 rfl rfl (mm_in rv2 (by decide)) dX12_textLine_41 ?_
        refine lv_topi (fun v146 ev146 => ?_)
        have rv146 : mm_rg v146 0 8 := mm_eqv ev146 (rz21_3_123 _)
        have q147 : mm_rg v146 0 7 := mm_b7_ld w129 q144 ev146 rv146 (by decide)
        refine lv_iadd hx hb dX12_textLine_42 ?_
        refine lv_topi (fun v148 ev148 => ?_)
        have rv148 : mm_rg v148 200 239 := mm_add ev148 rv145 q147 (by decide) (by decide)
        have tv148 := mm_addE ev148 rv145 q147 (by decide)
        refine lv_iload_n hx hb dX12_textLine_43 rfl (lv_at hl 0 rfl) ?_
        refine va_iast hx hb hK.1 hP hD hS 4 1 rfl rfl (mm_in rv148 (by decide)) dX12_textLine_44 ?_
        clear hP hD hS
        clear H locs
        obtain ⟨g149, eg149⟩ : ∃ z : Nat → Int32, z = upd z21_4_124 v148.toNatClampNeg x21_2_115 := ⟨_, rfl⟩
        rw [← eg149]
        intro H locs (hP : va_P G vwCl [(a_0, .inr (12, [.int i_0, .ref a_1, .ref a_2, .ref a_3, .ref a_4, .ref a_5, .int i_1, .int y21_0_7_116, .int y21_0_8_117, .int y21_0_9_118, .int y21_0_10_119, .long y21_0_11_120, .int y21_0_12_121, .int y21_0_13_122, .int i_8, .int i_9, .ref a_6, .ref a_7, .ref a_8, .ref a_9, .ref a_10, .ref a_11, .ref a_12, .ref a_13, .ref a_14, .ref a_15, .ref a_16, .ref a_17, .ref a_18, .int i_10, .int i_11, .int i_12, .int i_13, .int i_14, .int i_15, .ref a_19, .int i_16, .ref a_20])), (a_5, .inl (cy 0, 600, .inl f_0)), (a_7, .inl (cy 1, 30, .inl (mm_g [i_17, i_18, i_19, i_20, i_21, i_22, i_23, i_24, i_25, i_26, i_27, i_28, i_29, i_30, i_31, i_32, i_33, i_34, i_35, i_36, i_37, i_38, i_39, i_40, i_41, i_42, i_43, i_44, i_45, i_46]))), (a_11, .inl (cy 1, 30, .inl z21_3_123)), (a_12, .inl (cy 1, 240, .inl g149))] H) (hD : va_D A [(a_0, .inr (12, [.int i_0, .ref a_1, .ref a_2, .ref a_3, .ref a_4, .ref a_5, .int i_1, .int y21_0_7_116, .int y21_0_8_117, .int y21_0_9_118, .int y21_0_10_119, .long y21_0_11_120, .int y21_0_12_121, .int y21_0_13_122, .int i_8, .int i_9, .ref a_6, .ref a_7, .ref a_8, .ref a_9, .ref a_10, .ref a_11, .ref a_12, .ref a_13, .ref a_14, .ref a_15, .ref a_16, .ref a_17, .ref a_18, .int i_10, .int i_11, .int i_12, .int i_13, .int i_14, .int i_15, .ref a_19, .int i_16, .ref a_20])), (a_5, .inl (cy 0, 600, .inl f_0)), (a_7, .inl (cy 1, 30, .inl (mm_g [i_17, i_18, i_19, i_20, i_21, i_22, i_23, i_24, i_25, i_26, i_27, i_28, i_29, i_30, i_31, i_32, i_33, i_34, i_35, i_36, i_37, i_38, i_39, i_40, i_41, i_42, i_43, i_44, i_45, i_46]))), (a_11, .inl (cy 1, 30, .inl z21_3_123)), (a_12, .inl (cy 1, 240, .inl g149))]) hS
        have rg149 : mm_ar g149 0 9 := by rw [eg149]; exact mm_ar_upd (mm_ar_wk rz21_4_124 (by decide)) (mm_wk rx21_2_115 (by decide)) _
        refine lv_aload_n hx hb dX12_textLine_45 rfl (lv_at hl 2 rfl) ?_
        refine va_get (D := G) (ci := 12) (v := .ref a_11) (C := RX12) (T := TX12) (N := 38) hx hb hts (mm_i inlX12) hown hK.1 hP 0 rfl rfl 21 (by decide) (mm_h hts mm_w153) (fun _ h9 => h9) rfl dX12_textLine_46 ?_
        refine lv_iload_n hx hb dX12_textLine_49 rfl (lv_at hl 1 rfl) ?_
        refine lv_dup2_11 hx hb dX12_textLine_50 rfl rfl ?_
        refine va_iald hx hb hK.1 hP 3 1 rfl rfl (mm_in rv2 (by decide)) dX12_textLine_51 ?_
        refine lv_topi (fun v150 ev150 => ?_)
        have rv150 : mm_rg v150 0 8 := mm_eqv ev150 (rz21_3_123 _)
        have q151 : mm_rg v150 0 7 := mm_b7_ld w129 q144 ev150 rv150 (by decide)
        obtain rfl : v146 = v150 := ev146.trans ev150.symm
        refine lv_iconst (v := 1) hx hb dX12_textLine_52 (by decide) ?_
        refine lv_iadd hx hb dX12_textLine_53 ?_
        refine lv_topi (fun v152 ev152 => ?_)
        have rv152 : mm_rg v152 1 8 := mm_add ev152 q147 mm_k1 (by decide) (by decide)
        have tv152 := mm_addEc ev152 q147 mm_k1 (by decide) (k := 1) (by decide)
        refine va_iast hx hb hK.1 hP hD hS 3 1 rfl rfl (mm_in rv2 (by decide)) dX12_textLine_54 ?_
        clear hP hD hS
        clear H locs
        obtain ⟨g153, eg153⟩ : ∃ z : Nat → Int32, z = upd z21_3_123 v2.toNatClampNeg v152 := ⟨_, rfl⟩
        rw [← eg153]
        intro H locs (hP : va_P G vwCl [(a_0, .inr (12, [.int i_0, .ref a_1, .ref a_2, .ref a_3, .ref a_4, .ref a_5, .int i_1, .int y21_0_7_116, .int y21_0_8_117, .int y21_0_9_118, .int y21_0_10_119, .long y21_0_11_120, .int y21_0_12_121, .int y21_0_13_122, .int i_8, .int i_9, .ref a_6, .ref a_7, .ref a_8, .ref a_9, .ref a_10, .ref a_11, .ref a_12, .ref a_13, .ref a_14, .ref a_15, .ref a_16, .ref a_17, .ref a_18, .int i_10, .int i_11, .int i_12, .int i_13, .int i_14, .int i_15, .ref a_19, .int i_16, .ref a_20])), (a_5, .inl (cy 0, 600, .inl f_0)), (a_7, .inl (cy 1, 30, .inl (mm_g [i_17, i_18, i_19, i_20, i_21, i_22, i_23, i_24, i_25, i_26, i_27, i_28, i_29, i_30, i_31, i_32, i_33, i_34, i_35, i_36, i_37, i_38, i_39, i_40, i_41, i_42, i_43, i_44, i_45, i_46]))), (a_11, .inl (cy 1, 30, .inl g153)), (a_12, .inl (cy 1, 240, .inl g149))] H) (hD : va_D A [(a_0, .inr (12, [.int i_0, .ref a_1, .ref a_2, .ref a_3, .ref a_4, .ref a_5, .int i_1, .int y21_0_7_116, .int y21_0_8_117, .int y21_0_9_118, .int y21_0_10_119, .long y21_0_11_120, .int y21_0_12_121, .int y21_0_13_122, .int i_8, .int i_9, .ref a_6, .ref a_7, .ref a_8, .ref a_9, .ref a_10, .ref a_11, .ref a_12, .ref a_13, .ref a_14, .ref a_15, .ref a_16, .ref a_17, .ref a_18, .int i_10, .int i_11, .int i_12, .int i_13, .int i_14, .int i_15, .ref a_19, .int i_16, .ref a_20])), (a_5, .inl (cy 0, 600, .inl f_0)), (a_7, .inl (cy 1, 30, .inl (mm_g [i_17, i_18, i_19, i_20, i_21, i_22, i_23, i_24, i_25, i_26, i_27, i_28, i_29, i_30, i_31, i_32, i_33, i_34, i_35, i_36, i_37, i_38, i_39, i_40, i_41, i_42, i_43, i_44, i_45, i_46]))), (a_11, .inl (cy 1, 30, .inl g153)), (a_12, .inl (cy 1, 240, .inl g149))]) hS
        have rg153 : mm_ar g153 0 8 := by rw [eg153]; exact mm_ar_upd (mm_ar_wk rz21_3_123 (by decide)) (mm_wk rv152 (by decide)) _
        refine lv_aload_n hx hb dX12_textLine_55 rfl (lv_at hl 2 rfl) ?_
        refine va_get (D := G) (ci := 12) (v := .int y21_0_8_117) (C := RX12) (T := TX12) (N := 38) hx hb hts (mm_i inlX12) hown hK.1 hP 0 rfl rfl 8 (by decide) (mm_h hts mm_w432) (fun _ h9 => h9) rfl dX12_textLine_56 ?_
        refine lv_iconst (v := 2) hx hb dX12_textLine_59 (by decide) ?_
        refine lv_icmp_eq (tgt := 66) hx hb dX12_textLine_60 (by decide) (fun c154 => ?_) (fun c154 => ?_)
        · have q155 := mm_eqI (lo := 2) (hi := 2) c154 ry21_0_8_117 mm_k2 (by decide)
          refine lv_aload_n hx hb dX12_textLine_66 rfl (lv_at hl 2 rfl) ?_
          refine va_get (D := G) (ci := 12) (v := .ref a_11) (C := RX12) (T := TX12) (N := 38) hx hb hts (mm_i inlX12) hown hK.1 hP 0 rfl rfl 21 (by decide) (mm_h hts mm_w153) (fun _ h9 => h9) rfl dX12_textLine_67 ?_
          refine lv_iload_n hx hb dX12_textLine_70 rfl (lv_at hl 1 rfl) ?_
          refine va_iald hx hb hK.1 hP 3 1 rfl rfl (mm_in rv2 (by decide)) dX12_textLine_71 ?_
          refine lv_topi (fun v156 ev156 => ?_)
          obtain rfl : v152 = v156 := (ev156.trans (by rw [eg153]; exact pk_us)).symm
          refine lv_bipush (v := 8) hx hb dX12_textLine_72 (by decide) ?_
          refine lv_icmp_ne (tgt := 98) hx hb dX12_textLine_74 (by decide) (fun c157 => ?_) (fun c157 => ?_)
          · have q158 := mm_neH (hi := 7) (mm_ne c157) rv152 mm_k8 (by decide) (by decide)
            have q159 : mm_rg v146 0 6 := mm_unadd tv152 q158 q147 (by decide) (by decide)
            refine lv_aload_n hx hb dX12_textLine_98 rfl (lv_at hl 2 rfl) ?_
            refine mm_fini (va_runV (As := []) (rest := []) ⟨hx, hb, hml, hown, hts⟩ (M50_X12_wordHere l G cy H.size a_0 i_0 a_1 a_2 a_3 a_4 a_5 i_1 y21_0_7_116 y21_0_8_117 y21_0_9_118 y21_0_10_119 y21_0_11_120 y21_0_12_121 y21_0_13_122 i_8 i_9 a_6 a_7 a_8 a_9 a_10 a_11 a_12 a_13 a_14 a_15 a_16 a_17 a_18 i_10 i_11 i_12 i_13 i_14 i_15 a_19 i_16 a_20 f_0 i_17 i_18 i_19 i_20 i_21 i_22 i_23 i_24 i_25 i_26 i_27 i_28 i_29 i_30 i_31 i_32 i_33 i_34 i_35 i_36 i_37 i_38 i_39 i_40 i_41 i_42 i_43 i_44 i_45 i_46 h0 ry21_0_7_116 (mm_wk q155 (by decide)) ry21_0_9_118 q144 h5 h6 h7 h8 h9 h10 h11 h12 h13 h14 h15 h16 h17 h18 h19 h20 h21 h22 h23 h24 h25 h26 h27 h28 h29 h30 h31 h32 h33 (mm_wk h34 (by decide)) h35 w125 w126 w127) (cwV 0 hts (mm_gV mm_w532 mm_w533 mm_w534 mm_w5 mm_w535) rfl rfl rfl hd_X12_wordHere ⟨by rw [hRf]; exact Nat.le_of_ble_eq_true rfl, by rw [hRl]; exact Nat.le_of_ble_eq_true rfl⟩) (mm_preV hK hZ hS hA hP hD [0, 1, 2] rfl rfl 0 rfl rfl rfl) rfl rfl hl.1 rfl (lv_room (Nat.le_of_ble_eq_true rfl)) dX12_textLine_99 ⟨by rw [hRc]; exact Nat.le_of_ble_eq_true rfl, by rw [hRs]; exact Nat.le_of_ble_eq_true rfl⟩) hP hD hS hA (fun u : Int32 × Int32 × Int32 × Int32 × Int64 × Int32 × Int32 => [(a_0, .inr (12, [.int i_0, .ref a_1, .ref a_2, .ref a_3, .ref a_4, .ref a_5, .int i_1, .int u.1, .int u.2.1, .int u.2.2.1, .int u.2.2.2.1, .long u.2.2.2.2.1, .int u.2.2.2.2.2.1, .int u.2.2.2.2.2.2, .int i_8, .int i_9, .ref a_6, .ref a_7, .ref a_8, .ref a_9, .ref a_10, .ref a_11, .ref a_12, .ref a_13, .ref a_14, .ref a_15, .ref a_16, .ref a_17, .ref a_18, .int i_10, .int i_11, .int i_12, .int i_13, .int i_14, .int i_15, .ref a_19, .int i_16, .ref a_20])), (a_5, .inl (cy 0, 600, .inl f_0)), (a_7, .inl (cy 1, 30, .inl (mm_g [i_17, i_18, i_19, i_20, i_21, i_22, i_23, i_24, i_25, i_26, i_27, i_28, i_29, i_30, i_31, i_32, i_33, i_34, i_35, i_36, i_37, i_38, i_39, i_40, i_41, i_42, i_43, i_44, i_45, i_46]))), (a_11, .inl (cy 1, 30, .inl g153)), (a_12, .inl (cy 1, 240, .inl g149))]) [0, 1, 2] [3, 4] (n := 5) (fun _ => rfl) (by decide +kernel) (by decide +kernel) rfl (fun _ => rfl) (wr := [(a_11, .inl (cy 1, 30, .inl g153)), (a_12, .inl (cy 1, 240, .inl g149))]) rfl (fun _ => rfl) (fun _ => @rfl _ ([a_0, a_5, a_7] : List Nat)) ?_
            clear hP hD hS
            clear H locs
            intro v167 u
            obtain ⟨n160, n161, n162, n163, n164, n165, n166⟩ := u
            intro H locs hw (hP : va_P G vwCl [(a_0, .inr (12, [.int i_0, .ref a_1, .ref a_2, .ref a_3, .ref a_4, .ref a_5, .int i_1, .int n160, .int n161, .int n162, .int n163, .long n164, .int n165, .int n166, .int i_8, .int i_9, .ref a_6, .ref a_7, .ref a_8, .ref a_9, .ref a_10, .ref a_11, .ref a_12, .ref a_13, .ref a_14, .ref a_15, .ref a_16, .ref a_17, .ref a_18, .int i_10, .int i_11, .int i_12, .int i_13, .int i_14, .int i_15, .ref a_19, .int i_16, .ref a_20])), (a_5, .inl (cy 0, 600, .inl f_0)), (a_7, .inl (cy 1, 30, .inl (mm_g [i_17, i_18, i_19, i_20, i_21, i_22, i_23, i_24, i_25, i_26, i_27, i_28, i_29, i_30, i_31, i_32, i_33, i_34, i_35, i_36, i_37, i_38, i_39, i_40, i_41, i_42, i_43, i_44, i_45, i_46]))), (a_11, .inl (cy 1, 30, .inl g153)), (a_12, .inl (cy 1, 240, .inl g149))] H) (hD : va_D A [(a_0, .inr (12, [.int i_0, .ref a_1, .ref a_2, .ref a_3, .ref a_4, .ref a_5, .int i_1, .int n160, .int n161, .int n162, .int n163, .long n164, .int n165, .int n166, .int i_8, .int i_9, .ref a_6, .ref a_7, .ref a_8, .ref a_9, .ref a_10, .ref a_11, .ref a_12, .ref a_13, .ref a_14, .ref a_15, .ref a_16, .ref a_17, .ref a_18, .int i_10, .int i_11, .int i_12, .int i_13, .int i_14, .int i_15, .ref a_19, .int i_16, .ref a_20])), (a_5, .inl (cy 0, 600, .inl f_0)), (a_7, .inl (cy 1, 30, .inl (mm_g [i_17, i_18, i_19, i_20, i_21, i_22, i_23, i_24, i_25, i_26, i_27, i_28, i_29, i_30, i_31, i_32, i_33, i_34, i_35, i_36, i_37, i_38, i_39, i_40, i_41, i_42, i_43, i_44, i_45, i_46]))), (a_11, .inl (cy 1, 30, .inl g153)), (a_12, .inl (cy 1, 240, .inl g149))]) hS
            obtain ⟨w168, w169, w170, w171, w172, w173, w174, w175, w176, hw⟩ := hw
            replace w172 : (n162 : Int32).toInt ≤ (n160 : Int32).toInt := w172
            replace w173 : (n160 : Int32).toInt ≤ (i_1 : Int32).toInt := w173
            replace w174 : mm_tk n161 n162 n160 := w174
            replace w175 : (y21_0_9_118 : Int32).toInt ≤ (n162 : Int32).toInt := w175
            replace w176 : mm_b0 y21_0_12_121 n165 := w176
            obtain ⟨w177, w178, w179⟩ := hw
            replace w178 : (v167 : Int32).toInt ≤ (i_43 : Int32).toInt := w178
            replace w179 : mm_nv n165 v167 y21_0_8_117 y21_0_10_119 := w179
            refine lv_istore_n (lv' := [(2, .int v167), (1, .int v2), (0, .ref a_0)]) hx hb dX12_textLine_102 rfl hl (by decide) rfl ?_
            clear hl
            clear ls
            intro ls hl
            refine lv_goto (tgt := 21) hx hb dX12_textLine_103 (by decide) ?_
            exact ih21 v167 n160 n161 n162 n163 n164 n165 n166 g153 g149 w177 w168 w169 w170 w171 rg153 rg149 w172 w173 w174 (by have := w128; have := w175; omega) (mm_b7_u eg153 q158 (by decide)) (mm_fr_u w130 eg153 rv2 (by decide)) (mm_fr_u w131 eg149 rv148 (by decide)) (mm_txl_s w132 eg153 eg149 ev146 tv152 (by have := tv148; have := tv145; omega) w133 rx21_2_115 q159 rv2 (by decide)) w178 (mm_tmM hm21 q144 ev146 eg153 tv152 q159 (by decide)) H locs hP hD hS ls (lv_sub hl [0, 1, 2] rfl)
          · have q180 := mm_eqI (lo := 8) (hi := 8) c157 rv152 mm_k8 (by decide)
            have q181 : mm_rg v146 7 7 := mm_unadd tv152 q180 q147 (by decide) (by decide)
            refine lv_aload_n hx hb dX12_textLine_77 rfl (lv_at hl 2 rfl) ?_
            refine lv_aload_n hx hb dX12_textLine_78 rfl (lv_at hl 2 rfl) ?_
            refine va_get (D := G) (ci := 12) (v := .int y21_0_10_119) (C := RX12) (T := TX12) (N := 38) hx hb hts (mm_i inlX12) hown hK.1 hP 0 rfl rfl 10 (by decide) (mm_h hts mm_w456) (fun _ h9 => h9) rfl dX12_textLine_79 ?_
            refine lv_aload_n hx hb dX12_textLine_82 rfl (lv_at hl 2 rfl) ?_
            refine lv_iconst (v := 2) hx hb dX12_textLine_83 (by decide) ?_
            refine mm_finir (va_runV (As := [.int 2]) (rest := [.int y21_0_10_119, .ref a_0]) ⟨hx, hb, hml, hown, hts⟩ (M37_X12_hasRead l G cy H.size a_0 i_0 a_1 a_2 a_3 a_4 a_5 i_1 y21_0_7_116 y21_0_8_117 y21_0_9_118 y21_0_10_119 y21_0_11_120 y21_0_12_121 y21_0_13_122 i_8 i_9 a_6 a_7 a_8 a_9 a_10 a_11 a_12 a_13 a_14 a_15 a_16 a_17 a_18 i_10 i_11 i_12 i_13 i_14 i_15 a_19 i_16 a_20 i_17 i_18 i_19 i_20 i_21 i_22 i_23 i_24 i_25 i_26 i_27 i_28 i_29 i_30 i_31 i_32 i_33 i_34 i_35 i_36 i_37 i_38 i_39 i_40 i_41 i_42 i_43 i_44 i_45 i_46 h6 h7 h8 h9 h10 h11 h12 h13 h14 h15 h16 h17 h18 h19 h20 h21 h22 h23 h24 h25 h26 h27 h28 h29 h30 h31 h32 h33 (mm_wk h34 (by decide)) h35) (cwV 1 hts (mm_gV mm_w503 mm_w504 mm_w505 mm_w5 mm_w506) rfl rfl rfl hd_X12_hasRead ⟨by rw [hRf]; exact Nat.le_of_ble_eq_true rfl, by rw [hRl]; exact Nat.le_of_ble_eq_true rfl⟩) (mm_preV hK hZ hS hA hP hD [0, 2] rfl rfl 0 rfl rfl rfl) rfl rfl hl.1 rfl (lv_room (Nat.le_of_ble_eq_true rfl)) dX12_textLine_84 ⟨by rw [hRc]; exact Nat.le_of_ble_eq_true rfl, by rw [hRs]; exact Nat.le_of_ble_eq_true rfl⟩) hP hD hS hA [0, 2] rfl (fun _ => rfl) ?_
            clear hP hD hS
            clear H locs
            intro v182 _u H locs hw hP hD hS
            subst hw
            refine lv_icmp_gt (tgt := 94) hx hb dX12_textLine_87 (by decide) (fun c183 => ?_) (fun c183 => ?_)
            · have q184 := mm_ltR (lo := 1) (mm_lt c183) h32 (mm_top y21_0_10_119) (by decide)
              refine lv_iconst (v := 2) hx hb dX12_textLine_94 (by decide) ?_
              refine mm_finv (va_runV (As := [.int 2]) (rest := []) ⟨hx, hb, hml, hown, hts⟩ (M29_X12_fails l G cy H.size a_0 i_0 a_1 a_2 a_3 a_4 a_5 i_1 y21_0_7_116 y21_0_8_117 y21_0_9_118 y21_0_10_119 y21_0_11_120 y21_0_12_121 y21_0_13_122 i_8 i_9 a_6 a_7 a_8 a_9 a_10 a_11 a_12 a_13 a_14 a_15 a_16 a_17 a_18 i_10 i_11 i_12 i_13 i_14 i_15 a_19 i_16 a_20 ry21_0_9_118 (mm_wk q144 (by decide))) (cwV 1 hts (mm_gV mm_w483 mm_w484 mm_w485 mm_w5 mm_w486) rfl rfl rfl hd_X12_fails ⟨by rw [hRf]; exact Nat.le_of_ble_eq_true rfl, by rw [hRl]; exact Nat.le_of_ble_eq_true rfl⟩) (mm_preV hK hZ hS hA hP hD [0] rfl rfl 0 rfl rfl rfl) rfl rfl hl.1 rfl (lv_room (Nat.le_of_ble_eq_true rfl)) dX12_textLine_95 ⟨by rw [hRc]; exact Nat.le_of_ble_eq_true rfl, by rw [hRs]; exact Nat.le_of_ble_eq_true rfl⟩) hP hD hS hA (fun u : Int32 × Int32 => [(a_0, .inr (12, [.int i_0, .ref a_1, .ref a_2, .ref a_3, .ref a_4, .ref a_5, .int i_1, .int y21_0_7_116, .int y21_0_8_117, .int y21_0_9_118, .int y21_0_10_119, .long y21_0_11_120, .int u.1, .int u.2, .int i_8, .int i_9, .ref a_6, .ref a_7, .ref a_8, .ref a_9, .ref a_10, .ref a_11, .ref a_12, .ref a_13, .ref a_14, .ref a_15, .ref a_16, .ref a_17, .ref a_18, .int i_10, .int i_11, .int i_12, .int i_13, .int i_14, .int i_15, .ref a_19, .int i_16, .ref a_20])), (a_5, .inl (cy 0, 600, .inl f_0)), (a_7, .inl (cy 1, 30, .inl (mm_g [i_17, i_18, i_19, i_20, i_21, i_22, i_23, i_24, i_25, i_26, i_27, i_28, i_29, i_30, i_31, i_32, i_33, i_34, i_35, i_36, i_37, i_38, i_39, i_40, i_41, i_42, i_43, i_44, i_45, i_46]))), (a_11, .inl (cy 1, 30, .inl g153)), (a_12, .inl (cy 1, 240, .inl g149))]) [0] [1, 2, 3, 4] (n := 5) (fun _ => rfl) (by decide +kernel) (by decide +kernel) rfl (fun _ => rfl) (wr := [(a_5, .inl (cy 0, 600, .inl f_0)), (a_7, .inl (cy 1, 30, .inl (mm_g [i_17, i_18, i_19, i_20, i_21, i_22, i_23, i_24, i_25, i_26, i_27, i_28, i_29, i_30, i_31, i_32, i_33, i_34, i_35, i_36, i_37, i_38, i_39, i_40, i_41, i_42, i_43, i_44, i_45, i_46]))), (a_11, .inl (cy 1, 30, .inl g153)), (a_12, .inl (cy 1, 240, .inl g149))]) rfl (fun _ => rfl) (fun _ => rfl) ?_
              clear hP hD hS
              clear H locs
              intro u
              obtain ⟨n185, n186⟩ := u
              intro H locs hw (hP : va_P G vwCl [(a_0, .inr (12, [.int i_0, .ref a_1, .ref a_2, .ref a_3, .ref a_4, .ref a_5, .int i_1, .int y21_0_7_116, .int y21_0_8_117, .int y21_0_9_118, .int y21_0_10_119, .long y21_0_11_120, .int n185, .int n186, .int i_8, .int i_9, .ref a_6, .ref a_7, .ref a_8, .ref a_9, .ref a_10, .ref a_11, .ref a_12, .ref a_13, .ref a_14, .ref a_15, .ref a_16, .ref a_17, .ref a_18, .int i_10, .int i_11, .int i_12, .int i_13, .int i_14, .int i_15, .ref a_19, .int i_16, .ref a_20])), (a_5, .inl (cy 0, 600, .inl f_0)), (a_7, .inl (cy 1, 30, .inl (mm_g [i_17, i_18, i_19, i_20, i_21, i_22, i_23, i_24, i_25, i_26, i_27, i_28, i_29, i_30, i_31, i_32, i_33, i_34, i_35, i_36, i_37, i_38, i_39, i_40, i_41, i_42, i_43, i_44, i_45, i_46]))), (a_11, .inl (cy 1, 30, .inl g153)), (a_12, .inl (cy 1, 240, .inl g149))] H) (hD : va_D A [(a_0, .inr (12, [.int i_0, .ref a_1, .ref a_2, .ref a_3, .ref a_4, .ref a_5, .int i_1, .int y21_0_7_116, .int y21_0_8_117, .int y21_0_9_118, .int y21_0_10_119, .long y21_0_11_120, .int n185, .int n186, .int i_8, .int i_9, .ref a_6, .ref a_7, .ref a_8, .ref a_9, .ref a_10, .ref a_11, .ref a_12, .ref a_13, .ref a_14, .ref a_15, .ref a_16, .ref a_17, .ref a_18, .int i_10, .int i_11, .int i_12, .int i_13, .int i_14, .int i_15, .ref a_19, .int i_16, .ref a_20])), (a_5, .inl (cy 0, 600, .inl f_0)), (a_7, .inl (cy 1, 30, .inl (mm_g [i_17, i_18, i_19, i_20, i_21, i_22, i_23, i_24, i_25, i_26, i_27, i_28, i_29, i_30, i_31, i_32, i_33, i_34, i_35, i_36, i_37, i_38, i_39, i_40, i_41, i_42, i_43, i_44, i_45, i_46]))), (a_11, .inl (cy 1, 30, .inl g153)), (a_12, .inl (cy 1, 240, .inl g149))]) hS
              have w187 := hw
              refine lv_aload_n hx hb dX12_textLine_98 rfl (lv_at hl 2 rfl) ?_
              refine mm_finir (va_runV (As := []) (rest := []) ⟨hx, hb, hml, hown, hts⟩ (M52_X12_wordHere l G cy H.size a_0 i_0 a_1 a_2 a_3 a_4 a_5 i_1 y21_0_7_116 y21_0_8_117 y21_0_9_118 y21_0_10_119 y21_0_11_120 n185 n186 i_8 i_9 a_6 a_7 a_8 a_9 a_10 a_11 a_12 a_13 a_14 a_15 a_16 a_17 a_18 i_10 i_11 i_12 i_13 i_14 i_15 a_19 i_16 a_20 i_17 i_18 i_19 i_20 i_21 i_22 i_23 i_24 i_25 i_26 i_27 i_28 i_29 i_30 i_31 i_32 i_33 i_34 i_35 i_36 i_37 i_38 i_39 i_40 i_41 i_42 i_43 i_44 i_45 i_46 ry21_0_7_116 (mm_wk q155 (by decide)) ry21_0_9_118 w187 h6 h7 h8 h9 h10 h11 h12 h13 h14 h15 h16 h17 h18 h19 h20 h21 h22 h23 h24 h25 h26 h27 h28 h29 h30 h31 h32 h33 (mm_wk h34 (by decide)) h35 w125 w126 w127) (cwV 0 hts (mm_gV mm_w532 mm_w533 mm_w534 mm_w5 mm_w535) rfl rfl rfl hd_X12_wordHere ⟨by rw [hRf]; exact Nat.le_of_ble_eq_true rfl, by rw [hRl]; exact Nat.le_of_ble_eq_true rfl⟩) (mm_preV hK hZ hS hA hP hD [0, 2] rfl rfl 0 rfl rfl rfl) rfl rfl hl.1 rfl (lv_room (Nat.le_of_ble_eq_true rfl)) dX12_textLine_99 ⟨by rw [hRc]; exact Nat.le_of_ble_eq_true rfl, by rw [hRs]; exact Nat.le_of_ble_eq_true rfl⟩) hP hD hS hA [0, 2] rfl (fun _ => rfl) ?_
              clear hP hD hS
              clear H locs
              intro v188 _u H locs hw hP hD hS
              obtain ⟨rfl, w189, w190⟩ := hw
              refine lv_istore_n (lv' := [(2, .int 0), (1, .int v2), (0, .ref a_0)]) hx hb dX12_textLine_102 rfl hl (by decide) rfl ?_
              clear hl
              clear ls
              intro ls hl
              refine lv_goto (tgt := 21) hx hb dX12_textLine_103 (by decide) ?_
              exact ih21 0 y21_0_7_116 y21_0_8_117 y21_0_9_118 y21_0_10_119 y21_0_11_120 n185 n186 g153 g149 (mm_wk mm_k0 (by decide)) ry21_0_7_116 (mm_wk q155 (by decide)) ry21_0_9_118 (mm_wk w187 (by decide)) rg153 rg149 w125 w126 w127 w128 (mm_b7_n w187 (by decide)) (mm_fr_u w130 eg153 rv2 (by decide)) (mm_fr_u w131 eg149 rv148 (by decide)) (mm_txl_s w132 eg153 eg149 ev146 tv152 (by have := tv148; have := tv145; omega) w133 rx21_2_115 q181 rv2 (by decide)) w189 (mm_tmM hm21 q144 ev146 eg153 tv152 q181 (by decide)) H locs hP hD hS ls (lv_sub hl [0, 1, 2] rfl)
            · have q191 := mm_leL (mm_nlt c183) (mm_top y21_0_10_119) h32
              refine lv_iconst (v := 3) hx hb dX12_textLine_90 (by decide) ?_
              refine lv_goto (tgt := 95) hx hb dX12_textLine_91 (by decide) ?_
              refine mm_finv (va_runV (As := [.int 3]) (rest := []) ⟨hx, hb, hml, hown, hts⟩ (M45_X12_fails l G cy H.size a_0 i_0 a_1 a_2 a_3 a_4 a_5 i_1 y21_0_7_116 y21_0_8_117 y21_0_9_118 y21_0_10_119 y21_0_11_120 y21_0_12_121 y21_0_13_122 i_8 i_9 a_6 a_7 a_8 a_9 a_10 a_11 a_12 a_13 a_14 a_15 a_16 a_17 a_18 i_10 i_11 i_12 i_13 i_14 i_15 a_19 i_16 a_20 ry21_0_9_118 (mm_wk q144 (by decide))) (cwV 1 hts (mm_gV mm_w483 mm_w484 mm_w485 mm_w5 mm_w486) rfl rfl rfl hd_X12_fails ⟨by rw [hRf]; exact Nat.le_of_ble_eq_true rfl, by rw [hRl]; exact Nat.le_of_ble_eq_true rfl⟩) (mm_preV hK hZ hS hA hP hD [0] rfl rfl 0 rfl rfl rfl) rfl rfl hl.1 rfl (lv_room (Nat.le_of_ble_eq_true rfl)) dX12_textLine_95 ⟨by rw [hRc]; exact Nat.le_of_ble_eq_true rfl, by rw [hRs]; exact Nat.le_of_ble_eq_true rfl⟩) hP hD hS hA (fun u : Int32 × Int32 => [(a_0, .inr (12, [.int i_0, .ref a_1, .ref a_2, .ref a_3, .ref a_4, .ref a_5, .int i_1, .int y21_0_7_116, .int y21_0_8_117, .int y21_0_9_118, .int y21_0_10_119, .long y21_0_11_120, .int u.1, .int u.2, .int i_8, .int i_9, .ref a_6, .ref a_7, .ref a_8, .ref a_9, .ref a_10, .ref a_11, .ref a_12, .ref a_13, .ref a_14, .ref a_15, .ref a_16, .ref a_17, .ref a_18, .int i_10, .int i_11, .int i_12, .int i_13, .int i_14, .int i_15, .ref a_19, .int i_16, .ref a_20])), (a_5, .inl (cy 0, 600, .inl f_0)), (a_7, .inl (cy 1, 30, .inl (mm_g [i_17, i_18, i_19, i_20, i_21, i_22, i_23, i_24, i_25, i_26, i_27, i_28, i_29, i_30, i_31, i_32, i_33, i_34, i_35, i_36, i_37, i_38, i_39, i_40, i_41, i_42, i_43, i_44, i_45, i_46]))), (a_11, .inl (cy 1, 30, .inl g153)), (a_12, .inl (cy 1, 240, .inl g149))]) [0] [1, 2, 3, 4] (n := 5) (fun _ => rfl) (by decide +kernel) (by decide +kernel) rfl (fun _ => rfl) (wr := [(a_5, .inl (cy 0, 600, .inl f_0)), (a_7, .inl (cy 1, 30, .inl (mm_g [i_17, i_18, i_19, i_20, i_21, i_22, i_23, i_24, i_25, i_26, i_27, i_28, i_29, i_30, i_31, i_32, i_33, i_34, i_35, i_36, i_37, i_38, i_39, i_40, i_41, i_42, i_43, i_44, i_45, i_46]))), (a_11, .inl (cy 1, 30, .inl g153)), (a_12, .inl (cy 1, 240, .inl g149))]) rfl (fun _ => rfl) (fun _ => rfl) ?_
              clear hP hD hS
              clear H locs
              intro u
              obtain ⟨n192, n193⟩ := u
              intro H locs hw (hP : va_P G vwCl [(a_0, .inr (12, [.int i_0, .ref a_1, .ref a_2, .ref a_3, .ref a_4, .ref a_5, .int i_1, .int y21_0_7_116, .int y21_0_8_117, .int y21_0_9_118, .int y21_0_10_119, .long y21_0_11_120, .int n192, .int n193, .int i_8, .int i_9, .ref a_6, .ref a_7, .ref a_8, .ref a_9, .ref a_10, .ref a_11, .ref a_12, .ref a_13, .ref a_14, .ref a_15, .ref a_16, .ref a_17, .ref a_18, .int i_10, .int i_11, .int i_12, .int i_13, .int i_14, .int i_15, .ref a_19, .int i_16, .ref a_20])), (a_5, .inl (cy 0, 600, .inl f_0)), (a_7, .inl (cy 1, 30, .inl (mm_g [i_17, i_18, i_19, i_20, i_21, i_22, i_23, i_24, i_25, i_26, i_27, i_28, i_29, i_30, i_31, i_32, i_33, i_34, i_35, i_36, i_37, i_38, i_39, i_40, i_41, i_42, i_43, i_44, i_45, i_46]))), (a_11, .inl (cy 1, 30, .inl g153)), (a_12, .inl (cy 1, 240, .inl g149))] H) (hD : va_D A [(a_0, .inr (12, [.int i_0, .ref a_1, .ref a_2, .ref a_3, .ref a_4, .ref a_5, .int i_1, .int y21_0_7_116, .int y21_0_8_117, .int y21_0_9_118, .int y21_0_10_119, .long y21_0_11_120, .int n192, .int n193, .int i_8, .int i_9, .ref a_6, .ref a_7, .ref a_8, .ref a_9, .ref a_10, .ref a_11, .ref a_12, .ref a_13, .ref a_14, .ref a_15, .ref a_16, .ref a_17, .ref a_18, .int i_10, .int i_11, .int i_12, .int i_13, .int i_14, .int i_15, .ref a_19, .int i_16, .ref a_20])), (a_5, .inl (cy 0, 600, .inl f_0)), (a_7, .inl (cy 1, 30, .inl (mm_g [i_17, i_18, i_19, i_20, i_21, i_22, i_23, i_24, i_25, i_26, i_27, i_28, i_29, i_30, i_31, i_32, i_33, i_34, i_35, i_36, i_37, i_38, i_39, i_40, i_41, i_42, i_43, i_44, i_45, i_46]))), (a_11, .inl (cy 1, 30, .inl g153)), (a_12, .inl (cy 1, 240, .inl g149))]) hS
              have w194 := hw
              refine lv_aload_n hx hb dX12_textLine_98 rfl (lv_at hl 2 rfl) ?_
              refine mm_finir (va_runV (As := []) (rest := []) ⟨hx, hb, hml, hown, hts⟩ (M52_X12_wordHere l G cy H.size a_0 i_0 a_1 a_2 a_3 a_4 a_5 i_1 y21_0_7_116 y21_0_8_117 y21_0_9_118 y21_0_10_119 y21_0_11_120 n192 n193 i_8 i_9 a_6 a_7 a_8 a_9 a_10 a_11 a_12 a_13 a_14 a_15 a_16 a_17 a_18 i_10 i_11 i_12 i_13 i_14 i_15 a_19 i_16 a_20 i_17 i_18 i_19 i_20 i_21 i_22 i_23 i_24 i_25 i_26 i_27 i_28 i_29 i_30 i_31 i_32 i_33 i_34 i_35 i_36 i_37 i_38 i_39 i_40 i_41 i_42 i_43 i_44 i_45 i_46 ry21_0_7_116 (mm_wk q155 (by decide)) ry21_0_9_118 w194 h6 h7 h8 h9 h10 h11 h12 h13 h14 h15 h16 h17 h18 h19 h20 h21 h22 h23 h24 h25 h26 h27 h28 h29 h30 h31 h32 h33 (mm_wk h34 (by decide)) h35 w125 w126 w127) (cwV 0 hts (mm_gV mm_w532 mm_w533 mm_w534 mm_w5 mm_w535) rfl rfl rfl hd_X12_wordHere ⟨by rw [hRf]; exact Nat.le_of_ble_eq_true rfl, by rw [hRl]; exact Nat.le_of_ble_eq_true rfl⟩) (mm_preV hK hZ hS hA hP hD [0, 2] rfl rfl 0 rfl rfl rfl) rfl rfl hl.1 rfl (lv_room (Nat.le_of_ble_eq_true rfl)) dX12_textLine_99 ⟨by rw [hRc]; exact Nat.le_of_ble_eq_true rfl, by rw [hRs]; exact Nat.le_of_ble_eq_true rfl⟩) hP hD hS hA [0, 2] rfl (fun _ => rfl) ?_
              clear hP hD hS
              clear H locs
              intro v195 _u H locs hw hP hD hS
              obtain ⟨rfl, w196, w197⟩ := hw
              refine lv_istore_n (lv' := [(2, .int 0), (1, .int v2), (0, .ref a_0)]) hx hb dX12_textLine_102 rfl hl (by decide) rfl ?_
              clear hl
              clear ls
              intro ls hl
              refine lv_goto (tgt := 21) hx hb dX12_textLine_103 (by decide) ?_
              exact ih21 0 y21_0_7_116 y21_0_8_117 y21_0_9_118 y21_0_10_119 y21_0_11_120 n192 n193 g153 g149 (mm_wk mm_k0 (by decide)) ry21_0_7_116 (mm_wk q155 (by decide)) ry21_0_9_118 (mm_wk w194 (by decide)) rg153 rg149 w125 w126 w127 w128 (mm_b7_n w194 (by decide)) (mm_fr_u w130 eg153 rv2 (by decide)) (mm_fr_u w131 eg149 rv148 (by decide)) (mm_txl_s w132 eg153 eg149 ev146 tv152 (by have := tv148; have := tv145; omega) w133 rx21_2_115 q181 rv2 (by decide)) w196 (mm_tmM hm21 q144 ev146 eg153 tv152 q181 (by decide)) H locs hP hD hS ls (lv_sub hl [0, 1, 2] rfl)
        · refine lv_goto (tgt := 106) hx hb dX12_textLine_63 (by decide) ?_
          refine lv_aload_n hx hb dX12_textLine_106 rfl (lv_at hl 2 rfl) ?_
          refine lv_iconst (v := 4) hx hb dX12_textLine_107 (by decide) ?_
          refine lv_aload_n hx hb dX12_textLine_108 rfl (lv_at hl 2 rfl) ?_
          refine lv_iconst (v := 4) hx hb dX12_textLine_109 (by decide) ?_
          refine mm_finir (va_runV (As := [.int 4]) (rest := [.int 4, .ref a_0]) ⟨hx, hb, hml, hown, hts⟩ (M43_X12_hasRead l G cy H.size a_0 i_0 a_1 a_2 a_3 a_4 a_5 i_1 y21_0_7_116 y21_0_8_117 y21_0_9_118 y21_0_10_119 y21_0_11_120 y21_0_12_121 y21_0_13_122 i_8 i_9 a_6 a_7 a_8 a_9 a_10 a_11 a_12 a_13 a_14 a_15 a_16 a_17 a_18 i_10 i_11 i_12 i_13 i_14 i_15 a_19 i_16 a_20 i_17 i_18 i_19 i_20 i_21 i_22 i_23 i_24 i_25 i_26 i_27 i_28 i_29 i_30 i_31 i_32 i_33 i_34 i_35 i_36 i_37 i_38 i_39 i_40 i_41 i_42 i_43 i_44 i_45 i_46 h6 h7 h8 h9 h10 h11 h12 h13 h14 h15 h16 h17 h18 h19 h20 h21 h22 h23 h24 h25 h26 h27 h28 h29 h30 h31 h32 h33 (mm_wk h34 (by decide)) h35) (cwV 1 hts (mm_gV mm_w503 mm_w504 mm_w505 mm_w5 mm_w506) rfl rfl rfl hd_X12_hasRead ⟨by rw [hRf]; exact Nat.le_of_ble_eq_true rfl, by rw [hRl]; exact Nat.le_of_ble_eq_true rfl⟩) (mm_preV hK hZ hS hA hP hD [0, 2] rfl rfl 0 rfl rfl rfl) rfl rfl hl.1 rfl (lv_room (Nat.le_of_ble_eq_true rfl)) dX12_textLine_110 ⟨by rw [hRc]; exact Nat.le_of_ble_eq_true rfl, by rw [hRs]; exact Nat.le_of_ble_eq_true rfl⟩) hP hD hS hA [0, 2] rfl (fun _ => rfl) ?_
          clear hP hD hS
          clear H locs
          intro v198 _u H locs hw hP hD hS
          subst hw
          refine lv_iconst (v := 1) hx hb dX12_textLine_113 (by decide) ?_
          refine lv_iadd hx hb dX12_textLine_114 ?_
          refine lv_topi (fun v199 ev199 => ?_)
          have rv199 : mm_rg v199 2 6 := mm_add ev199 h34 mm_k1 (by decide) (by decide)
          have tv199 := mm_addEc ev199 h34 mm_k1 (by decide) (k := 1) (by decide)
          refine mm_finv (va_runV (As := [.int 4, .int v199]) (rest := []) ⟨hx, hb, hml, hown, hts⟩ (M70_X12_tells l G cy H.size a_0 v199 i_0 a_1 a_2 a_3 a_4 a_5 i_1 y21_0_7_116 y21_0_8_117 y21_0_9_118 y21_0_10_119 y21_0_11_120 y21_0_12_121 y21_0_13_122 i_8 i_9 a_6 a_7 a_8 a_9 a_10 a_11 a_12 a_13 a_14 a_15 a_16 a_17 a_18 i_10 i_11 i_12 i_13 i_14 i_15 a_19 i_16 a_20 i_17 i_18 i_19 i_20 i_21 i_22 i_23 i_24 i_25 i_26 i_27 i_28 i_29 i_30 i_31 i_32 i_33 i_34 i_35 i_36 i_37 i_38 i_39 i_40 i_41 i_42 i_43 i_44 i_45 i_46 rv199 h6 h7 h8 h9 h10 h11 h12 h13 h14 h15 h16 h17 h18 h19 h20 h21 h22 h23 h24 h25 h26 h27 h28 h29 h30 h31 h32 h33 (mm_wk h34 (by decide)) h35) (cwV 2 hts (mm_gV mm_w441 mm_w442 mm_w443 mm_w5 mm_w444) rfl rfl rfl hd_X12_tells ⟨by rw [hRf]; exact Nat.le_of_ble_eq_true rfl, by rw [hRl]; exact Nat.le_of_ble_eq_true rfl⟩) (mm_preV hK hZ hS hA hP hD [0, 2] rfl rfl 0 rfl rfl rfl) rfl rfl hl.1 rfl (lv_room (Nat.le_of_ble_eq_true rfl)) dX12_textLine_115 ⟨by rw [hRc]; exact Nat.le_of_ble_eq_true rfl, by rw [hRs]; exact Nat.le_of_ble_eq_true rfl⟩) hP hD hS hA (fun u : Unit => [(a_0, .inr (12, [.int i_0, .ref a_1, .ref a_2, .ref a_3, .ref a_4, .ref a_5, .int i_1, .int y21_0_7_116, .int y21_0_8_117, .int y21_0_9_118, .int y21_0_10_119, .long y21_0_11_120, .int y21_0_12_121, .int y21_0_13_122, .int i_8, .int i_9, .ref a_6, .ref a_7, .ref a_8, .ref a_9, .ref a_10, .ref a_11, .ref a_12, .ref a_13, .ref a_14, .ref a_15, .ref a_16, .ref a_17, .ref a_18, .int i_10, .int i_11, .int i_12, .int i_13, .int i_14, .int i_15, .ref a_19, .int i_16, .ref a_20])), (a_5, .inl (cy 0, 600, .inl f_0)), (a_7, .inl (cy 1, 30, .inl (mm_g [i_17, i_18, i_19, i_20, i_21, i_22, i_23, i_24, i_25, i_26, i_27, i_28, i_29, i_30, i_31, i_32, i_33, i_34, i_35, i_36, i_37, i_38, i_39, i_40, i_41, i_42, i_43, i_44, v199, i_46]))), (a_11, .inl (cy 1, 30, .inl g153)), (a_12, .inl (cy 1, 240, .inl g149))]) [0, 2] [1, 3, 4] (n := 5) (fun _ => rfl) (by decide +kernel) (by decide +kernel) rfl (fun _ => rfl) (wr := [(a_5, .inl (cy 0, 600, .inl f_0)), (a_11, .inl (cy 1, 30, .inl g153)), (a_12, .inl (cy 1, 240, .inl g149))]) rfl (fun _ => rfl) (fun _ => @rfl _ ([a_0, a_7] : List Nat)) ?_
          clear hP hD hS
          clear H locs
          intro _u H locs hw (hP : va_P G vwCl [(a_0, .inr (12, [.int i_0, .ref a_1, .ref a_2, .ref a_3, .ref a_4, .ref a_5, .int i_1, .int y21_0_7_116, .int y21_0_8_117, .int y21_0_9_118, .int y21_0_10_119, .long y21_0_11_120, .int y21_0_12_121, .int y21_0_13_122, .int i_8, .int i_9, .ref a_6, .ref a_7, .ref a_8, .ref a_9, .ref a_10, .ref a_11, .ref a_12, .ref a_13, .ref a_14, .ref a_15, .ref a_16, .ref a_17, .ref a_18, .int i_10, .int i_11, .int i_12, .int i_13, .int i_14, .int i_15, .ref a_19, .int i_16, .ref a_20])), (a_5, .inl (cy 0, 600, .inl f_0)), (a_7, .inl (cy 1, 30, .inl (mm_g [i_17, i_18, i_19, i_20, i_21, i_22, i_23, i_24, i_25, i_26, i_27, i_28, i_29, i_30, i_31, i_32, i_33, i_34, i_35, i_36, i_37, i_38, i_39, i_40, i_41, i_42, i_43, i_44, v199, i_46]))), (a_11, .inl (cy 1, 30, .inl g153)), (a_12, .inl (cy 1, 240, .inl g149))] H) (hD : va_D A [(a_0, .inr (12, [.int i_0, .ref a_1, .ref a_2, .ref a_3, .ref a_4, .ref a_5, .int i_1, .int y21_0_7_116, .int y21_0_8_117, .int y21_0_9_118, .int y21_0_10_119, .long y21_0_11_120, .int y21_0_12_121, .int y21_0_13_122, .int i_8, .int i_9, .ref a_6, .ref a_7, .ref a_8, .ref a_9, .ref a_10, .ref a_11, .ref a_12, .ref a_13, .ref a_14, .ref a_15, .ref a_16, .ref a_17, .ref a_18, .int i_10, .int i_11, .int i_12, .int i_13, .int i_14, .int i_15, .ref a_19, .int i_16, .ref a_20])), (a_5, .inl (cy 0, 600, .inl f_0)), (a_7, .inl (cy 1, 30, .inl (mm_g [i_17, i_18, i_19, i_20, i_21, i_22, i_23, i_24, i_25, i_26, i_27, i_28, i_29, i_30, i_31, i_32, i_33, i_34, i_35, i_36, i_37, i_38, i_39, i_40, i_41, i_42, i_43, i_44, v199, i_46]))), (a_11, .inl (cy 1, 30, .inl g153)), (a_12, .inl (cy 1, 240, .inl g149))]) hS
          have w200 : mm_txs g153 g149 0 i_19 i_21 := (mm_txs_fr h38 (mm_fr_u w130 eg153 rv2 (by decide)) (mm_fr_u w131 eg149 rv148 (by decide)) (by decide))
          have w201 : mm_txs g153 g149 1 i_25 i_27 := (mm_txs_fr h39 (mm_fr_u w130 eg153 rv2 (by decide)) (mm_fr_u w131 eg149 rv148 (by decide)) (by decide))
          have w202 : mm_txs g153 g149 2 i_31 i_33 := (mm_txs_fr h40 (mm_fr_u w130 eg153 rv2 (by decide)) (mm_fr_u w131 eg149 rv148 (by decide)) (by decide))
          have w203 : mm_txs g153 g149 3 i_37 i_39 := (mm_txs_fr h41 (mm_fr_u w130 eg153 rv2 (by decide)) (mm_fr_u w131 eg149 rv148 (by decide)) (by decide))
          have w204 : mm_txs g153 g149 4 i_43 v199 := (mm_txs_t h45 (mm_txl_s w132 eg153 eg149 ev146 tv152 (by have := tv148; have := tv145; omega) w133 rx21_2_115 q147 rv2 (by decide)) (by have := tv2; omega) (by have := tv199; omega) h34 (by decide))
          have w205 : mm_fr f_1 g153 24 := (mm_fr_u w130 eg153 rv2 (by decide))
          have w206 : mm_fr f_2 g149 192 := (mm_fr_u w131 eg149 rv148 (by decide))
          subst hAe
          rw [hQ]
          exact W.vret hx hb hr (fun t ht hW => ⟨⟨(y21_0_7_116, y21_0_8_117, y21_0_9_118, y21_0_10_119, y21_0_11_120, y21_0_12_121, y21_0_13_122, v199, g153, g149), rfl, ⟨ry21_0_7_116, ry21_0_8_117, ry21_0_9_118, (mm_wk q144 (by decide)), rv199, rg153, rg149, w200, w201, w202, w203, w125, w126, w127, w128, w204, w205, w206⟩, by rw [ht]; exact hP, hK.warm hW, hD⟩, hS.F ht⟩) hS.2.2 dX12_textLine_118
  exact L21_133 _ v11 n4 n5 n6 n7 n8 n9 n10 g3 f_2 w21 w12 w13 w14 w15 rg3 h37 w16 w17 w18 w19 (mm_b7_u eg3 mm_k0 (by decide)) (mm_fr_u (mm_fr_r _ _) eg3 rv2 (by decide)) (mm_fr_r _ _) (mm_txl_0 eg3) w22 (Nat.lt_succ_self _) H locs hP hD hS ls (lv_sub hl [0, 1, 2] rfl)

set_option maxHeartbeats 4000000 in
set_option maxRecDepth 100000 in
theorem M72_X12_isRoom (l : Launch) (G : va_G) (cy : Nat → ClassId) (sz : Nat) (a_0 : Nat) (i_0 : Int32) (i_1 : Int32) (a_1 : Nat) (a_2 : Nat) (a_3 : Nat) (a_4 : Nat) (a_5 : Nat) (i_2 : Int32) (i_3 : Int32) (i_4 : Int32) (i_5 : Int32) (i_6 : Int32) (j_0 : Int64) (i_7 : Int32) (i_8 : Int32) (i_9 : Int32) (i_10 : Int32) (a_6 : Nat) (a_7 : Nat) (a_8 : Nat) (a_9 : Nat) (a_10 : Nat) (a_11 : Nat) (a_12 : Nat) (a_13 : Nat) (a_14 : Nat) (a_15 : Nat) (a_16 : Nat) (a_17 : Nat) (a_18 : Nat) (i_11 : Int32) (i_12 : Int32) (i_13 : Int32) (i_14 : Int32) (i_15 : Int32) (i_16 : Int32) (a_19 : Nat) (i_17 : Int32) (a_20 : Nat) (f_0 : Nat → Int32) (h0 : mm_rg i_0 0 9) (h1 : mm_rg i_2 0 600) (h2 : mm_rg i_3 0 600) (h3 : mm_rg i_4 0 4) (h4 : mm_rg i_5 0 600) (h5 : mm_rg i_7 0 3) (h6 : mm_ar f_0 (-128) 127) (h7 : (i_5 : Int32).toInt ≤ (i_3 : Int32).toInt) (h8 : (i_3 : Int32).toInt ≤ (i_2 : Int32).toInt) (h9 : mm_tk i_4 i_5 i_3)  : mm_CI l yX12_isRoom (mm_ws yX12_isRoom cX12_isRoom 4 (some .boolean)) ({ frames := 2, cells := 0, slots := 0, locals := 44 } : Room) G cy sz [(a_0, .inr (12, [.int i_1, .ref a_1, .ref a_2, .ref a_3, .ref a_4, .ref a_5, .int i_2, .int i_3, .int i_4, .int i_5, .int i_6, .long j_0, .int i_7, .int i_8, .int i_9, .int i_10, .ref a_6, .ref a_7, .ref a_8, .ref a_9, .ref a_10, .ref a_11, .ref a_12, .ref a_13, .ref a_14, .ref a_15, .ref a_16, .ref a_17, .ref a_18, .int i_11, .int i_12, .int i_13, .int i_14, .int i_15, .int i_16, .ref a_19, .int i_17, .ref a_20])), (a_5, .inl (cy 0, 600, .inl f_0))] [.ref a_0, .int 1, .int i_0, .int 9] (fun u : Int32 × Int32 × Int32 × Int32 × Int64 × Int32 × Int32 => [(a_0, .inr (12, [.int i_1, .ref a_1, .ref a_2, .ref a_3, .ref a_4, .ref a_5, .int i_2, .int u.1, .int u.2.1, .int u.2.2.1, .int u.2.2.2.1, .long u.2.2.2.2.1, .int u.2.2.2.2.2.1, .int u.2.2.2.2.2.2, .int i_9, .int i_10, .ref a_6, .ref a_7, .ref a_8, .ref a_9, .ref a_10, .ref a_11, .ref a_12, .ref a_13, .ref a_14, .ref a_15, .ref a_16, .ref a_17, .ref a_18, .int i_11, .int i_12, .int i_13, .int i_14, .int i_15, .int i_16, .ref a_19, .int i_17, .ref a_20])), (a_5, .inl (cy 0, 600, .inl f_0))]) (fun (r : Int32) (u : Int32 × Int32 × Int32 × Int32 × Int64 × Int32 × Int32) => mm_rg u.1 0 600 ∧ mm_rg u.2.1 0 4 ∧ mm_rg u.2.2.1 0 600 ∧ mm_rg u.2.2.2.2.2.1 0 3 ∧ (u.2.2.1 : Int32).toInt ≤ (u.1 : Int32).toInt ∧ (u.1 : Int32).toInt ≤ (i_2 : Int32).toInt ∧ mm_tk u.2.1 u.2.2.1 u.1 ∧ (i_5 : Int32).toInt ≤ (u.2.2.1 : Int32).toInt ∧ ((0 = r ∧ mm_rg i_0 0 9) ∨ (1 = r ∧ mm_rg i_0 0 8))) 0 0 := by
  refine mm_begin (lv := [(0, .ref a_0), (1, .int 1), (2, .int i_0), (3, .int 9)]) (by decide) (Nat.le_of_ble_eq_true rfl) rfl ?_
  intro p e s m below meth c A ls R args Q H locs hRe hQ hAe hx hb hr hlocks hml hown hnm hts hsz hA hS hP hK hD hZ hl
  have hRf : R.frames = 2 := by rw [hRe]
  have hRl : R.locals = 44 := by rw [hRe]
  have hRc : R.cells = 0 := by rw [hRe]
  have hRs : R.slots = 0 := by rw [hRe]
  refine lv_iload_n hx hb dX12_isRoom_0 rfl (lv_at hl 1 rfl) ?_
  refine lv_if_eq (tgt := 14) hx hb dX12_isRoom_1 (by decide) (fun c1 => ?_) (fun c1 => ?_)
  · exact mm_eqN c1.symm mm_k0 mm_k1 (by decide)
  · refine lv_iload_n hx hb dX12_isRoom_4 rfl (lv_at hl 2 rfl) ?_
    refine lv_iload_n hx hb dX12_isRoom_5 rfl (lv_at hl 3 rfl) ?_
    refine lv_icmp_ne (tgt := 14) hx hb dX12_isRoom_6 (by decide) (fun c2 => ?_) (fun c2 => ?_)
    · have q3 := mm_neH (hi := 8) (mm_ne c2) h0 mm_k9 (by decide) (by decide)
      refine lv_iload_n hx hb dX12_isRoom_14 rfl (lv_at hl 1 rfl) ?_
      refine lv_if_eq (tgt := 29) hx hb dX12_isRoom_15 (by decide) (fun c4 => ?_) (fun c4 => ?_)
      · exact mm_eqN c4.symm mm_k0 mm_k1 (by decide)
      · refine lv_aload_n hx hb dX12_isRoom_18 rfl (lv_at hl 0 rfl) ?_
        refine va_get (D := G) (ci := 12) (v := .int i_7) (C := RX12) (T := TX12) (N := 38) hx hb hts (mm_i inlX12) hown hK.1 hP 0 rfl rfl 12 (by decide) (mm_h hts mm_w436) (fun _ h9 => h9) rfl dX12_isRoom_19 ?_
        refine lv_if_ne (tgt := 29) hx hb dX12_isRoom_22 (by decide) (fun c5 => ?_) (fun c5 => ?_)
        · have q6 := mm_neL (lo := 1) (mm_ne c5) h5 mm_k0 (by decide) (by decide)
          refine lv_iload_n hx hb dX12_isRoom_29 rfl (lv_at hl 1 rfl) ?_
          refine lv_if_eq (tgt := 44) hx hb dX12_isRoom_30 (by decide) (fun c7 => ?_) (fun c7 => ?_)
          · exact mm_eqN c7.symm mm_k0 mm_k1 (by decide)
          · refine lv_aload_n hx hb dX12_isRoom_33 rfl (lv_at hl 0 rfl) ?_
            refine va_get (D := G) (ci := 12) (v := .int i_7) (C := RX12) (T := TX12) (N := 38) hx hb hts (mm_i inlX12) hown hK.1 hP 0 rfl rfl 12 (by decide) (mm_h hts mm_w436) (fun _ h9 => h9) rfl dX12_isRoom_34 ?_
            refine lv_if_ne (tgt := 44) hx hb dX12_isRoom_37 (by decide) (fun c8 => ?_) (fun c8 => ?_)
            · refine lv_iconst (v := 0) hx hb dX12_isRoom_44 (by decide) ?_
              have w9 : (i_5 : Int32).toInt ≤ (i_5 : Int32).toInt := (Int.le_refl _)
              subst hAe
              rw [hQ]
              exact W.zret (v := 0) hx hb hr rfl (fun t ht hW => ⟨⟨0, (i_3, i_4, i_5, i_6, j_0, i_7, i_8), rfl, ⟨h2, h3, h4, (mm_wk q6 (by decide)), h7, h8, h9, w9, (Or.inl ⟨rfl, (mm_wk q3 (by decide))⟩)⟩, by rw [ht]; exact hP, hK.warm hW, hD⟩, hS.F ht⟩) hS.2.2 dX12_isRoom_45
            · exact mm_eqN c8.symm mm_k0 q6 (by decide)
        · have q10 := mm_eqI (lo := 0) (hi := 0) c5 h5 mm_k0 (by decide)
          refine lv_aload_n hx hb dX12_isRoom_25 rfl (lv_at hl 0 rfl) ?_
          refine mm_finv (va_runV (As := []) (rest := []) ⟨hx, hb, hml, hown, hts⟩ (M22_X12_next l G cy H.size a_0 i_1 a_1 a_2 a_3 a_4 a_5 i_2 i_3 i_4 i_5 i_6 j_0 i_7 i_8 i_9 i_10 a_6 a_7 a_8 a_9 a_10 a_11 a_12 a_13 a_14 a_15 a_16 a_17 a_18 i_11 i_12 i_13 i_14 i_15 i_16 a_19 i_17 a_20 f_0 h1 h2 h3 h4 h6 h8) (cwV 0 hts (mm_gV mm_w451 mm_w452 mm_w453 mm_w5 mm_w454) rfl rfl rfl hd_X12_next ⟨by rw [hRf]; exact Nat.le_of_ble_eq_true rfl, by rw [hRl]; exact Nat.le_of_ble_eq_true rfl⟩) (mm_preV hK hZ hS hA hP hD [0, 1] rfl rfl 0 rfl rfl rfl) rfl rfl hl.1 rfl (lv_room (Nat.le_of_ble_eq_true rfl)) dX12_isRoom_26 ⟨by rw [hRc]; exact Nat.le_of_ble_eq_true rfl, by rw [hRs]; exact Nat.le_of_ble_eq_true rfl⟩) hP hD hS hA (fun u : Int32 × Int32 × Int32 × Int32 × Int64 => [(a_0, .inr (12, [.int i_1, .ref a_1, .ref a_2, .ref a_3, .ref a_4, .ref a_5, .int i_2, .int u.1, .int u.2.1, .int u.2.2.1, .int u.2.2.2.1, .long u.2.2.2.2, .int i_7, .int i_8, .int i_9, .int i_10, .ref a_6, .ref a_7, .ref a_8, .ref a_9, .ref a_10, .ref a_11, .ref a_12, .ref a_13, .ref a_14, .ref a_15, .ref a_16, .ref a_17, .ref a_18, .int i_11, .int i_12, .int i_13, .int i_14, .int i_15, .int i_16, .ref a_19, .int i_17, .ref a_20])), (a_5, .inl (cy 0, 600, .inl f_0))]) [0, 1] [] (n := 2) (fun _ => rfl) (by decide +kernel) (by decide +kernel) rfl (fun _ => rfl) (wr := []) rfl (fun _ => rfl) (fun _ => rfl) ?_
          clear hP hD hS
          clear H locs
          intro u
          obtain ⟨n11, n12, n13, n14, n15⟩ := u
          intro H locs hw (hP : va_P G vwCl [(a_0, .inr (12, [.int i_1, .ref a_1, .ref a_2, .ref a_3, .ref a_4, .ref a_5, .int i_2, .int n11, .int n12, .int n13, .int n14, .long n15, .int i_7, .int i_8, .int i_9, .int i_10, .ref a_6, .ref a_7, .ref a_8, .ref a_9, .ref a_10, .ref a_11, .ref a_12, .ref a_13, .ref a_14, .ref a_15, .ref a_16, .ref a_17, .ref a_18, .int i_11, .int i_12, .int i_13, .int i_14, .int i_15, .int i_16, .ref a_19, .int i_17, .ref a_20])), (a_5, .inl (cy 0, 600, .inl f_0))] H) (hD : va_D A [(a_0, .inr (12, [.int i_1, .ref a_1, .ref a_2, .ref a_3, .ref a_4, .ref a_5, .int i_2, .int n11, .int n12, .int n13, .int n14, .long n15, .int i_7, .int i_8, .int i_9, .int i_10, .ref a_6, .ref a_7, .ref a_8, .ref a_9, .ref a_10, .ref a_11, .ref a_12, .ref a_13, .ref a_14, .ref a_15, .ref a_16, .ref a_17, .ref a_18, .int i_11, .int i_12, .int i_13, .int i_14, .int i_15, .int i_16, .ref a_19, .int i_17, .ref a_20])), (a_5, .inl (cy 0, 600, .inl f_0))]) hS
          obtain ⟨w16, w17, w18, w19, w20, w21, w22⟩ := hw
          replace w19 : (n13 : Int32).toInt ≤ (n11 : Int32).toInt := w19
          replace w20 : (n11 : Int32).toInt ≤ (i_2 : Int32).toInt := w20
          replace w21 : mm_tk n12 n13 n11 := w21
          replace w22 : (i_3 : Int32).toInt ≤ (n13 : Int32).toInt := w22
          refine lv_iload_n hx hb dX12_isRoom_29 rfl (lv_at hl 1 rfl) ?_
          refine lv_if_eq (tgt := 44) hx hb dX12_isRoom_30 (by decide) (fun c23 => ?_) (fun c23 => ?_)
          · exact mm_eqN c23.symm mm_k0 mm_k1 (by decide)
          · refine lv_aload_n hx hb dX12_isRoom_33 rfl (lv_at hl 0 rfl) ?_
            refine va_get (D := G) (ci := 12) (v := .int i_7) (C := RX12) (T := TX12) (N := 38) hx hb hts (mm_i inlX12) hown hK.1 hP 0 rfl rfl 12 (by decide) (mm_h hts mm_w436) (fun _ h9 => h9) rfl dX12_isRoom_34 ?_
            refine lv_if_ne (tgt := 44) hx hb dX12_isRoom_37 (by decide) (fun c24 => ?_) (fun c24 => ?_)
            · have q25 := mm_neL (lo := 1) (mm_ne c24) q10 mm_k0 (by decide) (by decide)
              exact mm_no q25 (by decide)
            · refine lv_iconst (v := 1) hx hb dX12_isRoom_40 (by decide) ?_
              refine lv_goto (tgt := 45) hx hb dX12_isRoom_41 (by decide) ?_
              have w26 : (i_5 : Int32).toInt ≤ (n13 : Int32).toInt := (by have := h7; have := w22; omega)
              subst hAe
              rw [hQ]
              exact W.zret (v := 1) hx hb hr rfl (fun t ht hW => ⟨⟨1, (n11, n12, n13, n14, n15, i_7, i_8), rfl, ⟨w16, w17, w18, (mm_wk q10 (by decide)), w19, w20, w21, w26, (Or.inr ⟨rfl, q3⟩)⟩, by rw [ht]; exact hP, hK.warm hW, hD⟩, hS.F ht⟩) hS.2.2 dX12_isRoom_45
    · have q27 := mm_eqI (lo := 9) (hi := 9) c2 h0 mm_k9 (by decide)
      refine lv_aload_n hx hb dX12_isRoom_9 rfl (lv_at hl 0 rfl) ?_
      refine lv_iconst (v := 3) hx hb dX12_isRoom_10 (by decide) ?_
      refine mm_finv (va_runV (As := [.int 3]) (rest := []) ⟨hx, hb, hml, hown, hts⟩ (M45_X12_fails l G cy H.size a_0 i_1 a_1 a_2 a_3 a_4 a_5 i_2 i_3 i_4 i_5 i_6 j_0 i_7 i_8 i_9 i_10 a_6 a_7 a_8 a_9 a_10 a_11 a_12 a_13 a_14 a_15 a_16 a_17 a_18 i_11 i_12 i_13 i_14 i_15 i_16 a_19 i_17 a_20 h4 h5) (cwV 1 hts (mm_gV mm_w483 mm_w484 mm_w485 mm_w5 mm_w486) rfl rfl rfl hd_X12_fails ⟨by rw [hRf]; exact Nat.le_of_ble_eq_true rfl, by rw [hRl]; exact Nat.le_of_ble_eq_true rfl⟩) (mm_preV hK hZ hS hA hP hD [0] rfl rfl 0 rfl rfl rfl) rfl rfl hl.1 rfl (lv_room (Nat.le_of_ble_eq_true rfl)) dX12_isRoom_11 ⟨by rw [hRc]; exact Nat.le_of_ble_eq_true rfl, by rw [hRs]; exact Nat.le_of_ble_eq_true rfl⟩) hP hD hS hA (fun u : Int32 × Int32 => [(a_0, .inr (12, [.int i_1, .ref a_1, .ref a_2, .ref a_3, .ref a_4, .ref a_5, .int i_2, .int i_3, .int i_4, .int i_5, .int i_6, .long j_0, .int u.1, .int u.2, .int i_9, .int i_10, .ref a_6, .ref a_7, .ref a_8, .ref a_9, .ref a_10, .ref a_11, .ref a_12, .ref a_13, .ref a_14, .ref a_15, .ref a_16, .ref a_17, .ref a_18, .int i_11, .int i_12, .int i_13, .int i_14, .int i_15, .int i_16, .ref a_19, .int i_17, .ref a_20])), (a_5, .inl (cy 0, 600, .inl f_0))]) [0] [1] (n := 2) (fun _ => rfl) (by decide +kernel) (by decide +kernel) rfl (fun _ => rfl) (wr := [(a_5, .inl (cy 0, 600, .inl f_0))]) rfl (fun _ => rfl) (fun _ => rfl) ?_
      clear hP hD hS
      clear H locs
      intro u
      obtain ⟨n28, n29⟩ := u
      intro H locs hw (hP : va_P G vwCl [(a_0, .inr (12, [.int i_1, .ref a_1, .ref a_2, .ref a_3, .ref a_4, .ref a_5, .int i_2, .int i_3, .int i_4, .int i_5, .int i_6, .long j_0, .int n28, .int n29, .int i_9, .int i_10, .ref a_6, .ref a_7, .ref a_8, .ref a_9, .ref a_10, .ref a_11, .ref a_12, .ref a_13, .ref a_14, .ref a_15, .ref a_16, .ref a_17, .ref a_18, .int i_11, .int i_12, .int i_13, .int i_14, .int i_15, .int i_16, .ref a_19, .int i_17, .ref a_20])), (a_5, .inl (cy 0, 600, .inl f_0))] H) (hD : va_D A [(a_0, .inr (12, [.int i_1, .ref a_1, .ref a_2, .ref a_3, .ref a_4, .ref a_5, .int i_2, .int i_3, .int i_4, .int i_5, .int i_6, .long j_0, .int n28, .int n29, .int i_9, .int i_10, .ref a_6, .ref a_7, .ref a_8, .ref a_9, .ref a_10, .ref a_11, .ref a_12, .ref a_13, .ref a_14, .ref a_15, .ref a_16, .ref a_17, .ref a_18, .int i_11, .int i_12, .int i_13, .int i_14, .int i_15, .int i_16, .ref a_19, .int i_17, .ref a_20])), (a_5, .inl (cy 0, 600, .inl f_0))]) hS
      have w30 := hw
      refine lv_iload_n hx hb dX12_isRoom_14 rfl (lv_at hl 1 rfl) ?_
      refine lv_if_eq (tgt := 29) hx hb dX12_isRoom_15 (by decide) (fun c31 => ?_) (fun c31 => ?_)
      · exact mm_eqN c31.symm mm_k0 mm_k1 (by decide)
      · refine lv_aload_n hx hb dX12_isRoom_18 rfl (lv_at hl 0 rfl) ?_
        refine va_get (D := G) (ci := 12) (v := .int n28) (C := RX12) (T := TX12) (N := 38) hx hb hts (mm_i inlX12) hown hK.1 hP 0 rfl rfl 12 (by decide) (mm_h hts mm_w436) (fun _ h9 => h9) rfl dX12_isRoom_19 ?_
        refine lv_if_ne (tgt := 29) hx hb dX12_isRoom_22 (by decide) (fun c32 => ?_) (fun c32 => ?_)
        · refine lv_iload_n hx hb dX12_isRoom_29 rfl (lv_at hl 1 rfl) ?_
          refine lv_if_eq (tgt := 44) hx hb dX12_isRoom_30 (by decide) (fun c33 => ?_) (fun c33 => ?_)
          · exact mm_eqN c33.symm mm_k0 mm_k1 (by decide)
          · refine lv_aload_n hx hb dX12_isRoom_33 rfl (lv_at hl 0 rfl) ?_
            refine va_get (D := G) (ci := 12) (v := .int n28) (C := RX12) (T := TX12) (N := 38) hx hb hts (mm_i inlX12) hown hK.1 hP 0 rfl rfl 12 (by decide) (mm_h hts mm_w436) (fun _ h9 => h9) rfl dX12_isRoom_34 ?_
            refine lv_if_ne (tgt := 44) hx hb dX12_isRoom_37 (by decide) (fun c34 => ?_) (fun c34 => ?_)
            · refine lv_iconst (v := 0) hx hb dX12_isRoom_44 (by decide) ?_
              have w35 : (i_5 : Int32).toInt ≤ (i_5 : Int32).toInt := (Int.le_refl _)
              subst hAe
              rw [hQ]
              exact W.zret (v := 0) hx hb hr rfl (fun t ht hW => ⟨⟨0, (i_3, i_4, i_5, i_6, j_0, n28, n29), rfl, ⟨h2, h3, h4, (mm_wk w30 (by decide)), h7, h8, h9, w35, (Or.inl ⟨rfl, (mm_wk q27 (by decide))⟩)⟩, by rw [ht]; exact hP, hK.warm hW, hD⟩, hS.F ht⟩) hS.2.2 dX12_isRoom_45
            · exact mm_eqN c34.symm mm_k0 w30 (by decide)
        · exact mm_eqN c32.symm mm_k0 w30 (by decide)

set_option maxHeartbeats 4000000 in
set_option maxRecDepth 100000 in
theorem M73_X12_isRoom (l : Launch) (G : va_G) (cy : Nat → ClassId) (sz : Nat) (a_0 : Nat) (i_0 : Int32) (h0 : mm_rg i_0 0 0)  : mm_CI l yX12_isRoom (mm_ws yX12_isRoom cX12_isRoom 4 (some .boolean)) ({ frames := 0, cells := 0, slots := 0, locals := 0 } : Room) G cy sz [] [.ref a_0, .int 0, .int i_0, .int 6] (fun u : Unit => []) (fun (r : Int32) (u : Unit) => 0 = r) 0 0 := by
  refine mm_begin (lv := [(0, .ref a_0), (1, .int 0), (2, .int i_0), (3, .int 6)]) (by decide) (Nat.le_of_ble_eq_true rfl) rfl ?_
  intro p e s m below meth c A ls R args Q H locs hRe hQ hAe hx hb hr hlocks hml hown hnm hts hsz hA hS hP hK hD hZ hl
  have hRf : R.frames = 0 := by rw [hRe]
  have hRl : R.locals = 0 := by rw [hRe]
  have hRc : R.cells = 0 := by rw [hRe]
  have hRs : R.slots = 0 := by rw [hRe]
  refine lv_iload_n hx hb dX12_isRoom_0 rfl (lv_at hl 1 rfl) ?_
  refine lv_if_eq (tgt := 14) hx hb dX12_isRoom_1 (by decide) (fun c1 => ?_) (fun c1 => ?_)
  · refine lv_iload_n hx hb dX12_isRoom_14 rfl (lv_at hl 1 rfl) ?_
    refine lv_if_eq (tgt := 29) hx hb dX12_isRoom_15 (by decide) (fun c2 => ?_) (fun c2 => ?_)
    · refine lv_iload_n hx hb dX12_isRoom_29 rfl (lv_at hl 1 rfl) ?_
      refine lv_if_eq (tgt := 44) hx hb dX12_isRoom_30 (by decide) (fun c3 => ?_) (fun c3 => ?_)
      · refine lv_iconst (v := 0) hx hb dX12_isRoom_44 (by decide) ?_
        subst hAe
        rw [hQ]
        exact W.zret (v := 0) hx hb hr rfl (fun t ht hW => ⟨⟨0, (), rfl, rfl, by rw [ht]; exact hP, hK.warm hW, hD⟩, hS.F ht⟩) hS.2.2 dX12_isRoom_45
      · have q4 := mm_neL (lo := 1) (mm_ne c3) mm_k0 mm_k0 (by decide) (by decide)
        exact mm_no q4 (by decide)
    · have q5 := mm_neL (lo := 1) (mm_ne c2) mm_k0 mm_k0 (by decide) (by decide)
      exact mm_no q5 (by decide)
  · have q6 := mm_neL (lo := 1) (mm_ne c1) mm_k0 mm_k0 (by decide) (by decide)
    exact mm_no q6 (by decide)

set_option maxHeartbeats 4000000 in
set_option maxRecDepth 100000 in
theorem M74_X12_isRoom (l : Launch) (G : va_G) (cy : Nat → ClassId) (sz : Nat) (a_0 : Nat) (i_0 : Int32) (i_1 : Int32) (a_1 : Nat) (a_2 : Nat) (a_3 : Nat) (a_4 : Nat) (a_5 : Nat) (i_2 : Int32) (i_3 : Int32) (i_4 : Int32) (i_5 : Int32) (i_6 : Int32) (j_0 : Int64) (i_7 : Int32) (i_8 : Int32) (i_9 : Int32) (i_10 : Int32) (a_6 : Nat) (a_7 : Nat) (a_8 : Nat) (a_9 : Nat) (a_10 : Nat) (a_11 : Nat) (a_12 : Nat) (a_13 : Nat) (a_14 : Nat) (a_15 : Nat) (a_16 : Nat) (a_17 : Nat) (a_18 : Nat) (i_11 : Int32) (i_12 : Int32) (i_13 : Int32) (i_14 : Int32) (i_15 : Int32) (i_16 : Int32) (a_19 : Nat) (i_17 : Int32) (a_20 : Nat) (f_0 : Nat → Int32) (h0 : mm_rg i_0 0 0) (h1 : mm_rg i_2 0 600) (h2 : mm_rg i_3 0 600) (h3 : mm_rg i_4 0 4) (h4 : mm_rg i_5 0 600) (h5 : mm_rg i_7 0 3) (h6 : mm_ar f_0 (-128) 127) (h7 : (i_5 : Int32).toInt ≤ (i_3 : Int32).toInt) (h8 : (i_3 : Int32).toInt ≤ (i_2 : Int32).toInt) (h9 : mm_tk i_4 i_5 i_3)  : mm_CI l yX12_isRoom (mm_ws yX12_isRoom cX12_isRoom 4 (some .boolean)) ({ frames := 2, cells := 0, slots := 0, locals := 44 } : Room) G cy sz [(a_0, .inr (12, [.int i_1, .ref a_1, .ref a_2, .ref a_3, .ref a_4, .ref a_5, .int i_2, .int i_3, .int i_4, .int i_5, .int i_6, .long j_0, .int i_7, .int i_8, .int i_9, .int i_10, .ref a_6, .ref a_7, .ref a_8, .ref a_9, .ref a_10, .ref a_11, .ref a_12, .ref a_13, .ref a_14, .ref a_15, .ref a_16, .ref a_17, .ref a_18, .int i_11, .int i_12, .int i_13, .int i_14, .int i_15, .int i_16, .ref a_19, .int i_17, .ref a_20])), (a_5, .inl (cy 0, 600, .inl f_0))] [.ref a_0, .int 1, .int i_0, .int 6] (fun u : Int32 × Int32 × Int32 × Int32 × Int64 => [(a_0, .inr (12, [.int i_1, .ref a_1, .ref a_2, .ref a_3, .ref a_4, .ref a_5, .int i_2, .int u.1, .int u.2.1, .int u.2.2.1, .int u.2.2.2.1, .long u.2.2.2.2, .int i_7, .int i_8, .int i_9, .int i_10, .ref a_6, .ref a_7, .ref a_8, .ref a_9, .ref a_10, .ref a_11, .ref a_12, .ref a_13, .ref a_14, .ref a_15, .ref a_16, .ref a_17, .ref a_18, .int i_11, .int i_12, .int i_13, .int i_14, .int i_15, .int i_16, .ref a_19, .int i_17, .ref a_20])), (a_5, .inl (cy 0, 600, .inl f_0))]) (fun (r : Int32) (u : Int32 × Int32 × Int32 × Int32 × Int64) => mm_rg u.1 0 600 ∧ mm_rg u.2.1 0 4 ∧ mm_rg u.2.2.1 0 600 ∧ (u.2.2.1 : Int32).toInt ≤ (u.1 : Int32).toInt ∧ (u.1 : Int32).toInt ≤ (i_2 : Int32).toInt ∧ mm_tk u.2.1 u.2.2.1 u.1 ∧ (i_5 : Int32).toInt ≤ (u.2.2.1 : Int32).toInt ∧ ((0 = r) ∨ (1 = r))) 0 0 := by
  refine mm_begin (lv := [(0, .ref a_0), (1, .int 1), (2, .int i_0), (3, .int 6)]) (by decide) (Nat.le_of_ble_eq_true rfl) rfl ?_
  intro p e s m below meth c A ls R args Q H locs hRe hQ hAe hx hb hr hlocks hml hown hnm hts hsz hA hS hP hK hD hZ hl
  have hRf : R.frames = 2 := by rw [hRe]
  have hRl : R.locals = 44 := by rw [hRe]
  have hRc : R.cells = 0 := by rw [hRe]
  have hRs : R.slots = 0 := by rw [hRe]
  refine lv_iload_n hx hb dX12_isRoom_0 rfl (lv_at hl 1 rfl) ?_
  refine lv_if_eq (tgt := 14) hx hb dX12_isRoom_1 (by decide) (fun c1 => ?_) (fun c1 => ?_)
  · exact mm_eqN c1.symm mm_k0 mm_k1 (by decide)
  · refine lv_iload_n hx hb dX12_isRoom_4 rfl (lv_at hl 2 rfl) ?_
    refine lv_iload_n hx hb dX12_isRoom_5 rfl (lv_at hl 3 rfl) ?_
    refine lv_icmp_ne (tgt := 14) hx hb dX12_isRoom_6 (by decide) (fun c2 => ?_) (fun c2 => ?_)
    · refine lv_iload_n hx hb dX12_isRoom_14 rfl (lv_at hl 1 rfl) ?_
      refine lv_if_eq (tgt := 29) hx hb dX12_isRoom_15 (by decide) (fun c3 => ?_) (fun c3 => ?_)
      · exact mm_eqN c3.symm mm_k0 mm_k1 (by decide)
      · refine lv_aload_n hx hb dX12_isRoom_18 rfl (lv_at hl 0 rfl) ?_
        refine va_get (D := G) (ci := 12) (v := .int i_7) (C := RX12) (T := TX12) (N := 38) hx hb hts (mm_i inlX12) hown hK.1 hP 0 rfl rfl 12 (by decide) (mm_h hts mm_w436) (fun _ h9 => h9) rfl dX12_isRoom_19 ?_
        refine lv_if_ne (tgt := 29) hx hb dX12_isRoom_22 (by decide) (fun c4 => ?_) (fun c4 => ?_)
        · have q5 := mm_neL (lo := 1) (mm_ne c4) h5 mm_k0 (by decide) (by decide)
          refine lv_iload_n hx hb dX12_isRoom_29 rfl (lv_at hl 1 rfl) ?_
          refine lv_if_eq (tgt := 44) hx hb dX12_isRoom_30 (by decide) (fun c6 => ?_) (fun c6 => ?_)
          · exact mm_eqN c6.symm mm_k0 mm_k1 (by decide)
          · refine lv_aload_n hx hb dX12_isRoom_33 rfl (lv_at hl 0 rfl) ?_
            refine va_get (D := G) (ci := 12) (v := .int i_7) (C := RX12) (T := TX12) (N := 38) hx hb hts (mm_i inlX12) hown hK.1 hP 0 rfl rfl 12 (by decide) (mm_h hts mm_w436) (fun _ h9 => h9) rfl dX12_isRoom_34 ?_
            refine lv_if_ne (tgt := 44) hx hb dX12_isRoom_37 (by decide) (fun c7 => ?_) (fun c7 => ?_)
            · refine lv_iconst (v := 0) hx hb dX12_isRoom_44 (by decide) ?_
              have w8 : (i_5 : Int32).toInt ≤ (i_5 : Int32).toInt := (Int.le_refl _)
              subst hAe
              rw [hQ]
              exact W.zret (v := 0) hx hb hr rfl (fun t ht hW => ⟨⟨0, (i_3, i_4, i_5, i_6, j_0), rfl, ⟨h2, h3, h4, h7, h8, h9, w8, (Or.inl rfl)⟩, by rw [ht]; exact hP, hK.warm hW, hD⟩, hS.F ht⟩) hS.2.2 dX12_isRoom_45
            · exact mm_eqN c7.symm mm_k0 q5 (by decide)
        · have q9 := mm_eqI (lo := 0) (hi := 0) c4 h5 mm_k0 (by decide)
          refine lv_aload_n hx hb dX12_isRoom_25 rfl (lv_at hl 0 rfl) ?_
          refine mm_finv (va_runV (As := []) (rest := []) ⟨hx, hb, hml, hown, hts⟩ (M22_X12_next l G cy H.size a_0 i_1 a_1 a_2 a_3 a_4 a_5 i_2 i_3 i_4 i_5 i_6 j_0 i_7 i_8 i_9 i_10 a_6 a_7 a_8 a_9 a_10 a_11 a_12 a_13 a_14 a_15 a_16 a_17 a_18 i_11 i_12 i_13 i_14 i_15 i_16 a_19 i_17 a_20 f_0 h1 h2 h3 h4 h6 h8) (cwV 0 hts (mm_gV mm_w451 mm_w452 mm_w453 mm_w5 mm_w454) rfl rfl rfl hd_X12_next ⟨by rw [hRf]; exact Nat.le_of_ble_eq_true rfl, by rw [hRl]; exact Nat.le_of_ble_eq_true rfl⟩) (mm_preV hK hZ hS hA hP hD [0, 1] rfl rfl 0 rfl rfl rfl) rfl rfl hl.1 rfl (lv_room (Nat.le_of_ble_eq_true rfl)) dX12_isRoom_26 ⟨by rw [hRc]; exact Nat.le_of_ble_eq_true rfl, by rw [hRs]; exact Nat.le_of_ble_eq_true rfl⟩) hP hD hS hA (fun u : Int32 × Int32 × Int32 × Int32 × Int64 => [(a_0, .inr (12, [.int i_1, .ref a_1, .ref a_2, .ref a_3, .ref a_4, .ref a_5, .int i_2, .int u.1, .int u.2.1, .int u.2.2.1, .int u.2.2.2.1, .long u.2.2.2.2, .int i_7, .int i_8, .int i_9, .int i_10, .ref a_6, .ref a_7, .ref a_8, .ref a_9, .ref a_10, .ref a_11, .ref a_12, .ref a_13, .ref a_14, .ref a_15, .ref a_16, .ref a_17, .ref a_18, .int i_11, .int i_12, .int i_13, .int i_14, .int i_15, .int i_16, .ref a_19, .int i_17, .ref a_20])), (a_5, .inl (cy 0, 600, .inl f_0))]) [0, 1] [] (n := 2) (fun _ => rfl) (by decide +kernel) (by decide +kernel) rfl (fun _ => rfl) (wr := []) rfl (fun _ => rfl) (fun _ => rfl) ?_
          clear hP hD hS
          clear H locs
          intro u
          obtain ⟨n10, n11, n12, n13, n14⟩ := u
          intro H locs hw (hP : va_P G vwCl [(a_0, .inr (12, [.int i_1, .ref a_1, .ref a_2, .ref a_3, .ref a_4, .ref a_5, .int i_2, .int n10, .int n11, .int n12, .int n13, .long n14, .int i_7, .int i_8, .int i_9, .int i_10, .ref a_6, .ref a_7, .ref a_8, .ref a_9, .ref a_10, .ref a_11, .ref a_12, .ref a_13, .ref a_14, .ref a_15, .ref a_16, .ref a_17, .ref a_18, .int i_11, .int i_12, .int i_13, .int i_14, .int i_15, .int i_16, .ref a_19, .int i_17, .ref a_20])), (a_5, .inl (cy 0, 600, .inl f_0))] H) (hD : va_D A [(a_0, .inr (12, [.int i_1, .ref a_1, .ref a_2, .ref a_3, .ref a_4, .ref a_5, .int i_2, .int n10, .int n11, .int n12, .int n13, .long n14, .int i_7, .int i_8, .int i_9, .int i_10, .ref a_6, .ref a_7, .ref a_8, .ref a_9, .ref a_10, .ref a_11, .ref a_12, .ref a_13, .ref a_14, .ref a_15, .ref a_16, .ref a_17, .ref a_18, .int i_11, .int i_12, .int i_13, .int i_14, .int i_15, .int i_16, .ref a_19, .int i_17, .ref a_20])), (a_5, .inl (cy 0, 600, .inl f_0))]) hS
          obtain ⟨w15, w16, w17, w18, w19, w20, w21⟩ := hw
          replace w18 : (n12 : Int32).toInt ≤ (n10 : Int32).toInt := w18
          replace w19 : (n10 : Int32).toInt ≤ (i_2 : Int32).toInt := w19
          replace w20 : mm_tk n11 n12 n10 := w20
          replace w21 : (i_3 : Int32).toInt ≤ (n12 : Int32).toInt := w21
          refine lv_iload_n hx hb dX12_isRoom_29 rfl (lv_at hl 1 rfl) ?_
          refine lv_if_eq (tgt := 44) hx hb dX12_isRoom_30 (by decide) (fun c22 => ?_) (fun c22 => ?_)
          · exact mm_eqN c22.symm mm_k0 mm_k1 (by decide)
          · refine lv_aload_n hx hb dX12_isRoom_33 rfl (lv_at hl 0 rfl) ?_
            refine va_get (D := G) (ci := 12) (v := .int i_7) (C := RX12) (T := TX12) (N := 38) hx hb hts (mm_i inlX12) hown hK.1 hP 0 rfl rfl 12 (by decide) (mm_h hts mm_w436) (fun _ h9 => h9) rfl dX12_isRoom_34 ?_
            refine lv_if_ne (tgt := 44) hx hb dX12_isRoom_37 (by decide) (fun c23 => ?_) (fun c23 => ?_)
            · have q24 := mm_neL (lo := 1) (mm_ne c23) q9 mm_k0 (by decide) (by decide)
              exact mm_no q24 (by decide)
            · refine lv_iconst (v := 1) hx hb dX12_isRoom_40 (by decide) ?_
              refine lv_goto (tgt := 45) hx hb dX12_isRoom_41 (by decide) ?_
              have w25 : (i_5 : Int32).toInt ≤ (n12 : Int32).toInt := (by have := h7; have := w21; omega)
              subst hAe
              rw [hQ]
              exact W.zret (v := 1) hx hb hr rfl (fun t ht hW => ⟨⟨1, (n10, n11, n12, n13, n14), rfl, ⟨w15, w16, w17, w18, w19, w20, w25, (Or.inr rfl)⟩, by rw [ht]; exact hP, hK.warm hW, hD⟩, hS.F ht⟩) hS.2.2 dX12_isRoom_45
    · exact mm_eqN c2 h0 mm_k6 (by decide)

set_option maxHeartbeats 4000000 in
set_option maxRecDepth 100000 in
theorem M75_X12_tells (l : Launch) (G : va_G) (cy : Nat → ClassId) (sz : Nat) (a_0 : Nat) (i_0 : Int32) (i_1 : Int32) (a_1 : Nat) (a_2 : Nat) (a_3 : Nat) (a_4 : Nat) (a_5 : Nat) (i_2 : Int32) (i_3 : Int32) (i_4 : Int32) (i_5 : Int32) (i_6 : Int32) (j_0 : Int64) (i_7 : Int32) (i_8 : Int32) (i_9 : Int32) (i_10 : Int32) (a_6 : Nat) (a_7 : Nat) (a_8 : Nat) (a_9 : Nat) (a_10 : Nat) (a_11 : Nat) (a_12 : Nat) (a_13 : Nat) (a_14 : Nat) (a_15 : Nat) (a_16 : Nat) (a_17 : Nat) (a_18 : Nat) (i_11 : Int32) (i_12 : Int32) (i_13 : Int32) (i_14 : Int32) (i_15 : Int32) (i_16 : Int32) (a_19 : Nat) (i_17 : Int32) (a_20 : Nat) (i_18 : Int32) (i_19 : Int32) (i_20 : Int32) (i_21 : Int32) (i_22 : Int32) (i_23 : Int32) (i_24 : Int32) (i_25 : Int32) (i_26 : Int32) (i_27 : Int32) (i_28 : Int32) (i_29 : Int32) (i_30 : Int32) (i_31 : Int32) (i_32 : Int32) (i_33 : Int32) (i_34 : Int32) (i_35 : Int32) (i_36 : Int32) (i_37 : Int32) (i_38 : Int32) (i_39 : Int32) (i_40 : Int32) (i_41 : Int32) (i_42 : Int32) (i_43 : Int32) (i_44 : Int32) (i_45 : Int32) (i_46 : Int32) (i_47 : Int32) (h0 : mm_rg i_0 1 1) (h1 : mm_rg i_18 0 10) (h2 : mm_rg i_19 0 99) (h3 : mm_rg i_20 0 9) (h4 : mm_rg i_21 0 3) (h5 : mm_rg i_22 0 6) (h6 : mm_rg i_23 0 30) (h7 : mm_rg i_24 0 10) (h8 : mm_rg i_25 0 99) (h9 : mm_rg i_26 0 9) (h10 : mm_rg i_27 0 3) (h11 : mm_rg i_28 0 6) (h12 : mm_rg i_29 0 30) (h13 : mm_rg i_30 0 10) (h14 : mm_rg i_31 0 99) (h15 : mm_rg i_32 0 9) (h16 : mm_rg i_33 0 3) (h17 : mm_rg i_34 0 6) (h18 : mm_rg i_35 0 30) (h19 : mm_rg i_36 0 10) (h20 : mm_rg i_37 0 99) (h21 : mm_rg i_38 0 9) (h22 : mm_rg i_39 0 3) (h23 : mm_rg i_40 0 6) (h24 : mm_rg i_41 0 30) (h25 : mm_rg i_42 0 10) (h26 : mm_rg i_43 0 99) (h27 : mm_rg i_44 0 9) (h28 : mm_rg i_45 0 3) (h29 : mm_rg i_46 0 6) (h30 : mm_rg i_47 0 30)  : mm_CV l yX12_tells (mm_ws yX12_tells cX12_tells 3 (none)) ({ frames := 0, cells := 0, slots := 0, locals := 0 } : Room) G cy sz [(a_0, .inr (12, [.int i_1, .ref a_1, .ref a_2, .ref a_3, .ref a_4, .ref a_5, .int i_2, .int i_3, .int i_4, .int i_5, .int i_6, .long j_0, .int i_7, .int i_8, .int i_9, .int i_10, .ref a_6, .ref a_7, .ref a_8, .ref a_9, .ref a_10, .ref a_11, .ref a_12, .ref a_13, .ref a_14, .ref a_15, .ref a_16, .ref a_17, .ref a_18, .int i_11, .int i_12, .int i_13, .int i_14, .int i_15, .int i_16, .ref a_19, .int i_17, .ref a_20])), (a_7, .inl (cy 1, 30, .inl (mm_g [i_18, i_19, i_20, i_21, i_22, i_23, i_24, i_25, i_26, i_27, i_28, i_29, i_30, i_31, i_32, i_33, i_34, i_35, i_36, i_37, i_38, i_39, i_40, i_41, i_42, i_43, i_44, i_45, i_46, i_47])))] [.ref a_0, .int 4, .int i_0] (fun u : Unit => [(a_0, .inr (12, [.int i_1, .ref a_1, .ref a_2, .ref a_3, .ref a_4, .ref a_5, .int i_2, .int i_3, .int i_4, .int i_5, .int i_6, .long j_0, .int i_7, .int i_8, .int i_9, .int i_10, .ref a_6, .ref a_7, .ref a_8, .ref a_9, .ref a_10, .ref a_11, .ref a_12, .ref a_13, .ref a_14, .ref a_15, .ref a_16, .ref a_17, .ref a_18, .int i_11, .int i_12, .int i_13, .int i_14, .int i_15, .int i_16, .ref a_19, .int i_17, .ref a_20])), (a_7, .inl (cy 1, 30, .inl (mm_g [i_18, i_19, i_20, i_21, i_22, i_23, i_24, i_25, i_26, i_27, i_28, i_29, i_30, i_31, i_32, i_33, i_34, i_35, i_36, i_37, i_38, i_39, i_40, i_41, i_42, i_43, i_44, i_45, i_0, i_47])))]) (fun u : Unit => True) 0 0 := by
  refine mm_begin (lv := [(0, .ref a_0), (1, .int 4), (2, .int i_0)]) (by decide) (Nat.le_of_ble_eq_true rfl) rfl ?_
  intro p e s m below meth c A ls R args Q H locs hRe hQ hAe hx hb hr hlocks hml hown hnm hts hsz hA hS hP hK hD hZ hl
  have hRf : R.frames = 0 := by rw [hRe]
  have hRl : R.locals = 0 := by rw [hRe]
  have hRc : R.cells = 0 := by rw [hRe]
  have hRs : R.slots = 0 := by rw [hRe]
  refine lv_aload_n hx hb dX12_tells_0 rfl (lv_at hl 0 rfl) ?_
  refine va_get (D := G) (ci := 12) (v := .ref a_7) (C := RX12) (T := TX12) (N := 38) hx hb hts (mm_i inlX12) hown hK.1 hP 0 rfl rfl 17 (by decide) (mm_h hts mm_w149) (fun _ h9 => h9) rfl dX12_tells_1 ?_
  refine lv_bipush (v := 24) hx hb dX12_tells_4 (by decide) ?_
  refine lv_iload_n hx hb dX12_tells_6 rfl (lv_at hl 1 rfl) ?_
  refine lv_iadd hx hb dX12_tells_7 ?_
  refine lv_topi (fun v1 ev1 => ?_)
  obtain rfl : v1 = 28 := ev1.trans (by decide)
  refine lv_iload_n hx hb dX12_tells_8 rfl (lv_at hl 2 rfl) ?_
  refine va_iast hx hb hK.1 hP hD hS 1 1 rfl rfl (mm_in mm_k28 (by decide)) dX12_tells_9 ?_
  clear hP hD hS
  clear H locs
  rw [show upd (mm_g [i_18, i_19, i_20, i_21, i_22, i_23, i_24, i_25, i_26, i_27, i_28, i_29, i_30, i_31, i_32, i_33, i_34, i_35, i_36, i_37, i_38, i_39, i_40, i_41, i_42, i_43, i_44, i_45, i_46, i_47]) (28 : Int32).toNatClampNeg i_0 = (mm_g [i_18, i_19, i_20, i_21, i_22, i_23, i_24, i_25, i_26, i_27, i_28, i_29, i_30, i_31, i_32, i_33, i_34, i_35, i_36, i_37, i_38, i_39, i_40, i_41, i_42, i_43, i_44, i_45, i_0, i_47]) from mm_gs2 28 30 (by decide) rfl rfl rfl]
  intro H locs (hP : va_P G vwCl [(a_0, .inr (12, [.int i_1, .ref a_1, .ref a_2, .ref a_3, .ref a_4, .ref a_5, .int i_2, .int i_3, .int i_4, .int i_5, .int i_6, .long j_0, .int i_7, .int i_8, .int i_9, .int i_10, .ref a_6, .ref a_7, .ref a_8, .ref a_9, .ref a_10, .ref a_11, .ref a_12, .ref a_13, .ref a_14, .ref a_15, .ref a_16, .ref a_17, .ref a_18, .int i_11, .int i_12, .int i_13, .int i_14, .int i_15, .int i_16, .ref a_19, .int i_17, .ref a_20])), (a_7, .inl (cy 1, 30, .inl (mm_g [i_18, i_19, i_20, i_21, i_22, i_23, i_24, i_25, i_26, i_27, i_28, i_29, i_30, i_31, i_32, i_33, i_34, i_35, i_36, i_37, i_38, i_39, i_40, i_41, i_42, i_43, i_44, i_45, i_0, i_47])))] H) (hD : va_D A [(a_0, .inr (12, [.int i_1, .ref a_1, .ref a_2, .ref a_3, .ref a_4, .ref a_5, .int i_2, .int i_3, .int i_4, .int i_5, .int i_6, .long j_0, .int i_7, .int i_8, .int i_9, .int i_10, .ref a_6, .ref a_7, .ref a_8, .ref a_9, .ref a_10, .ref a_11, .ref a_12, .ref a_13, .ref a_14, .ref a_15, .ref a_16, .ref a_17, .ref a_18, .int i_11, .int i_12, .int i_13, .int i_14, .int i_15, .int i_16, .ref a_19, .int i_17, .ref a_20])), (a_7, .inl (cy 1, 30, .inl (mm_g [i_18, i_19, i_20, i_21, i_22, i_23, i_24, i_25, i_26, i_27, i_28, i_29, i_30, i_31, i_32, i_33, i_34, i_35, i_36, i_37, i_38, i_39, i_40, i_41, i_42, i_43, i_44, i_45, i_0, i_47])))]) hS
  subst hAe
  rw [hQ]
  exact W.vret hx hb hr (fun t ht hW => ⟨⟨(), rfl, trivial, by rw [ht]; exact hP, hK.warm hW, hD⟩, hS.F ht⟩) hS.2.2 dX12_tells_10

set_option maxHeartbeats 4000000 in
set_option maxRecDepth 100000 in
theorem M76_X12_textLine (l : Launch) (G : va_G) (cy : Nat → ClassId) (sz : Nat) (a_0 : Nat) (i_0 : Int32) (a_1 : Nat) (a_2 : Nat) (a_3 : Nat) (a_4 : Nat) (a_5 : Nat) (i_1 : Int32) (i_2 : Int32) (i_3 : Int32) (i_4 : Int32) (i_5 : Int32) (j_0 : Int64) (i_6 : Int32) (i_7 : Int32) (i_8 : Int32) (i_9 : Int32) (a_6 : Nat) (a_7 : Nat) (a_8 : Nat) (a_9 : Nat) (a_10 : Nat) (a_11 : Nat) (a_12 : Nat) (a_13 : Nat) (a_14 : Nat) (a_15 : Nat) (a_16 : Nat) (a_17 : Nat) (a_18 : Nat) (i_10 : Int32) (i_11 : Int32) (i_12 : Int32) (i_13 : Int32) (i_14 : Int32) (i_15 : Int32) (a_19 : Nat) (i_16 : Int32) (a_20 : Nat) (f_0 : Nat → Int32) (i_17 : Int32) (i_18 : Int32) (i_19 : Int32) (i_20 : Int32) (i_21 : Int32) (i_22 : Int32) (i_23 : Int32) (i_24 : Int32) (i_25 : Int32) (i_26 : Int32) (i_27 : Int32) (i_28 : Int32) (i_29 : Int32) (i_30 : Int32) (i_31 : Int32) (i_32 : Int32) (i_33 : Int32) (i_34 : Int32) (i_35 : Int32) (i_36 : Int32) (i_37 : Int32) (i_38 : Int32) (i_39 : Int32) (i_40 : Int32) (i_41 : Int32) (i_42 : Int32) (i_43 : Int32) (i_44 : Int32) (i_45 : Int32) (i_46 : Int32) (f_1 : Nat → Int32) (f_2 : Nat → Int32) (h0 : mm_rg i_1 0 600) (h1 : mm_rg i_2 0 600) (h2 : mm_rg i_3 0 4) (h3 : mm_rg i_4 0 600) (h4 : mm_rg i_6 0 3) (h5 : mm_ar f_0 (-128) 127) (h6 : mm_rg i_17 0 10) (h7 : mm_rg i_18 0 99) (h8 : mm_rg i_19 0 9) (h9 : mm_rg i_20 0 3) (h10 : mm_rg i_21 0 6) (h11 : mm_rg i_22 0 30) (h12 : mm_rg i_23 0 10) (h13 : mm_rg i_24 0 99) (h14 : mm_rg i_25 0 9) (h15 : mm_rg i_26 0 3) (h16 : mm_rg i_27 0 6) (h17 : mm_rg i_28 0 30) (h18 : mm_rg i_29 0 10) (h19 : mm_rg i_30 0 99) (h20 : mm_rg i_31 0 9) (h21 : mm_rg i_32 0 3) (h22 : mm_rg i_33 0 6) (h23 : mm_rg i_34 0 30) (h24 : mm_rg i_35 0 10) (h25 : mm_rg i_36 0 99) (h26 : mm_rg i_37 0 9) (h27 : mm_rg i_38 0 3) (h28 : mm_rg i_39 0 6) (h29 : mm_rg i_40 0 30) (h30 : mm_rg i_41 0 10) (h31 : mm_rg i_42 0 99) (h32 : mm_rg i_43 0 9) (h33 : mm_rg i_44 0 3) (h34 : mm_rg i_45 0 0) (h35 : mm_rg i_46 0 30) (h36 : mm_ar f_1 0 8) (h37 : mm_ar f_2 0 9) (h38 : mm_txs f_1 f_2 0 i_19 i_21) (h39 : mm_txs f_1 f_2 1 i_25 i_27) (h40 : mm_txs f_1 f_2 2 i_31 i_33) (h41 : mm_txs f_1 f_2 3 i_37 i_39) (h42 : (i_4 : Int32).toInt ≤ (i_2 : Int32).toInt) (h43 : (i_2 : Int32).toInt ≤ (i_1 : Int32).toInt) (h44 : mm_tk i_3 i_4 i_2) (h45 : mm_txs f_1 f_2 4 i_43 i_45)  : mm_CV l yX12_textLine (mm_ws yX12_textLine cX12_textLine 3 (none)) ({ frames := 4, cells := 0, slots := 0, locals := 87 } : Room) G cy sz [(a_0, .inr (12, [.int i_0, .ref a_1, .ref a_2, .ref a_3, .ref a_4, .ref a_5, .int i_1, .int i_2, .int i_3, .int i_4, .int i_5, .long j_0, .int i_6, .int i_7, .int i_8, .int i_9, .ref a_6, .ref a_7, .ref a_8, .ref a_9, .ref a_10, .ref a_11, .ref a_12, .ref a_13, .ref a_14, .ref a_15, .ref a_16, .ref a_17, .ref a_18, .int i_10, .int i_11, .int i_12, .int i_13, .int i_14, .int i_15, .ref a_19, .int i_16, .ref a_20])), (a_5, .inl (cy 0, 600, .inl f_0)), (a_7, .inl (cy 1, 30, .inl (mm_g [i_17, i_18, i_19, i_20, i_21, i_22, i_23, i_24, i_25, i_26, i_27, i_28, i_29, i_30, i_31, i_32, i_33, i_34, i_35, i_36, i_37, i_38, i_39, i_40, i_41, i_42, i_43, i_44, i_45, i_46]))), (a_11, .inl (cy 1, 30, .inl f_1)), (a_12, .inl (cy 1, 240, .inl f_2))] [.ref a_0] (fun u : Int32 × Int32 × Int32 × Int32 × Int64 × Int32 × Int32 × Int32 × (Nat → Int32) × (Nat → Int32) => [(a_0, .inr (12, [.int i_0, .ref a_1, .ref a_2, .ref a_3, .ref a_4, .ref a_5, .int i_1, .int u.1, .int u.2.1, .int u.2.2.1, .int u.2.2.2.1, .long u.2.2.2.2.1, .int u.2.2.2.2.2.1, .int u.2.2.2.2.2.2.1, .int i_8, .int i_9, .ref a_6, .ref a_7, .ref a_8, .ref a_9, .ref a_10, .ref a_11, .ref a_12, .ref a_13, .ref a_14, .ref a_15, .ref a_16, .ref a_17, .ref a_18, .int i_10, .int i_11, .int i_12, .int i_13, .int i_14, .int i_15, .ref a_19, .int i_16, .ref a_20])), (a_5, .inl (cy 0, 600, .inl f_0)), (a_7, .inl (cy 1, 30, .inl (mm_g [i_17, i_18, i_19, i_20, i_21, i_22, i_23, i_24, i_25, i_26, i_27, i_28, i_29, i_30, i_31, i_32, i_33, i_34, i_35, i_36, i_37, i_38, i_39, i_40, i_41, i_42, i_43, i_44, u.2.2.2.2.2.2.2.1, i_46]))), (a_11, .inl (cy 1, 30, .inl u.2.2.2.2.2.2.2.2.1)), (a_12, .inl (cy 1, 240, .inl u.2.2.2.2.2.2.2.2.2))]) (fun u : Int32 × Int32 × Int32 × Int32 × Int64 × Int32 × Int32 × Int32 × (Nat → Int32) × (Nat → Int32) => mm_rg u.1 0 600 ∧ mm_rg u.2.1 0 4 ∧ mm_rg u.2.2.1 0 600 ∧ mm_rg u.2.2.2.2.2.1 0 3 ∧ mm_rg u.2.2.2.2.2.2.2.1 1 1 ∧ mm_ar u.2.2.2.2.2.2.2.2.1 0 8 ∧ mm_ar u.2.2.2.2.2.2.2.2.2 0 9 ∧ mm_txs u.2.2.2.2.2.2.2.2.1 u.2.2.2.2.2.2.2.2.2 0 i_19 i_21 ∧ mm_txs u.2.2.2.2.2.2.2.2.1 u.2.2.2.2.2.2.2.2.2 1 i_25 i_27 ∧ mm_txs u.2.2.2.2.2.2.2.2.1 u.2.2.2.2.2.2.2.2.2 2 i_31 i_33 ∧ mm_txs u.2.2.2.2.2.2.2.2.1 u.2.2.2.2.2.2.2.2.2 3 i_37 i_39 ∧ (u.2.2.1 : Int32).toInt ≤ (u.1 : Int32).toInt ∧ (u.1 : Int32).toInt ≤ (i_1 : Int32).toInt ∧ mm_tk u.2.1 u.2.2.1 u.1 ∧ (i_4 : Int32).toInt ≤ (u.2.2.1 : Int32).toInt ∧ mm_txs u.2.2.2.2.2.2.2.2.1 u.2.2.2.2.2.2.2.2.2 4 i_43 u.2.2.2.2.2.2.2.1 ∧ mm_fr f_1 u.2.2.2.2.2.2.2.2.1 24 ∧ mm_fr f_2 u.2.2.2.2.2.2.2.2.2 192) 0 0 := by
  refine mm_begin (lv := [(0, .ref a_0)]) (by decide) (Nat.le_of_ble_eq_true rfl) rfl ?_
  intro p e s m below meth c A ls R args Q H locs hRe hQ hAe hx hb hr hlocks hml hown hnm hts hsz hA hS hP hK hD hZ hl
  have hRf : R.frames = 4 := by rw [hRe]
  have hRl : R.locals = 87 := by rw [hRe]
  have hRc : R.cells = 0 := by rw [hRe]
  have hRs : R.slots = 0 := by rw [hRe]
  refine lv_bipush (v := 24) hx hb dX12_textLine_0 (by decide) ?_
  refine lv_aload_n hx hb dX12_textLine_2 rfl (lv_at hl 0 rfl) ?_
  refine lv_iconst (v := 4) hx hb dX12_textLine_3 (by decide) ?_
  refine mm_finir (va_runV (As := [.int 4]) (rest := [.int 24]) ⟨hx, hb, hml, hown, hts⟩ (M43_X12_hasRead l G cy H.size a_0 i_0 a_1 a_2 a_3 a_4 a_5 i_1 i_2 i_3 i_4 i_5 j_0 i_6 i_7 i_8 i_9 a_6 a_7 a_8 a_9 a_10 a_11 a_12 a_13 a_14 a_15 a_16 a_17 a_18 i_10 i_11 i_12 i_13 i_14 i_15 a_19 i_16 a_20 i_17 i_18 i_19 i_20 i_21 i_22 i_23 i_24 i_25 i_26 i_27 i_28 i_29 i_30 i_31 i_32 i_33 i_34 i_35 i_36 i_37 i_38 i_39 i_40 i_41 i_42 i_43 i_44 i_45 i_46 h6 h7 h8 h9 h10 h11 h12 h13 h14 h15 h16 h17 h18 h19 h20 h21 h22 h23 h24 h25 h26 h27 h28 h29 h30 h31 h32 h33 (mm_wk h34 (by decide)) h35) (cwV 1 hts (mm_gV mm_w503 mm_w504 mm_w505 mm_w5 mm_w506) rfl rfl rfl hd_X12_hasRead ⟨by rw [hRf]; exact Nat.le_of_ble_eq_true rfl, by rw [hRl]; exact Nat.le_of_ble_eq_true rfl⟩) (mm_preV hK hZ hS hA hP hD [0, 2] rfl rfl 0 rfl rfl rfl) rfl rfl hl.1 rfl (lv_room (Nat.le_of_ble_eq_true rfl)) dX12_textLine_4 ⟨by rw [hRc]; exact Nat.le_of_ble_eq_true rfl, by rw [hRs]; exact Nat.le_of_ble_eq_true rfl⟩) hP hD hS hA [0, 2] rfl (fun _ => rfl) ?_
  clear hP hD hS
  clear H locs
  intro v1 _u H locs hw hP hD hS
  subst hw
  refine lv_iadd hx hb dX12_textLine_7 ?_
  refine lv_topi (fun v2 ev2 => ?_)
  have rv2 : mm_rg v2 24 24 := mm_add ev2 mm_k24 h34 (by decide) (by decide)
  have tv2 := mm_addEd ev2 mm_k24 h34 (by decide) (k := 24) (by decide)
  refine lv_istore_n (lv' := [(1, .int v2), (0, .ref a_0)]) hx hb dX12_textLine_8 rfl hl (by decide) rfl ?_
  clear hl
  clear ls
  intro ls hl
  refine lv_aload_n hx hb dX12_textLine_9 rfl (lv_at hl 1 rfl) ?_
  refine va_get (D := G) (ci := 12) (v := .ref a_11) (C := RX12) (T := TX12) (N := 38) hx hb hts (mm_i inlX12) hown hK.1 hP 0 rfl rfl 21 (by decide) (mm_h hts mm_w153) (fun _ h9 => h9) rfl dX12_textLine_10 ?_
  refine lv_iload_n hx hb dX12_textLine_13 rfl (lv_at hl 0 rfl) ?_
  refine lv_iconst (v := 0) hx hb dX12_textLine_14 (by decide) ?_
  refine va_iast hx hb hK.1 hP hD hS 3 1 rfl rfl (mm_in rv2 (by decide)) dX12_textLine_15 ?_
  clear hP hD hS
  clear H locs
  obtain ⟨g3, eg3⟩ : ∃ z : Nat → Int32, z = upd f_1 v2.toNatClampNeg 0 := ⟨_, rfl⟩
  rw [← eg3]
  intro H locs (hP : va_P G vwCl [(a_0, .inr (12, [.int i_0, .ref a_1, .ref a_2, .ref a_3, .ref a_4, .ref a_5, .int i_1, .int i_2, .int i_3, .int i_4, .int i_5, .long j_0, .int i_6, .int i_7, .int i_8, .int i_9, .ref a_6, .ref a_7, .ref a_8, .ref a_9, .ref a_10, .ref a_11, .ref a_12, .ref a_13, .ref a_14, .ref a_15, .ref a_16, .ref a_17, .ref a_18, .int i_10, .int i_11, .int i_12, .int i_13, .int i_14, .int i_15, .ref a_19, .int i_16, .ref a_20])), (a_5, .inl (cy 0, 600, .inl f_0)), (a_7, .inl (cy 1, 30, .inl (mm_g [i_17, i_18, i_19, i_20, i_21, i_22, i_23, i_24, i_25, i_26, i_27, i_28, i_29, i_30, i_31, i_32, i_33, i_34, i_35, i_36, i_37, i_38, i_39, i_40, i_41, i_42, i_43, i_44, i_45, i_46]))), (a_11, .inl (cy 1, 30, .inl g3)), (a_12, .inl (cy 1, 240, .inl f_2))] H) (hD : va_D A [(a_0, .inr (12, [.int i_0, .ref a_1, .ref a_2, .ref a_3, .ref a_4, .ref a_5, .int i_1, .int i_2, .int i_3, .int i_4, .int i_5, .long j_0, .int i_6, .int i_7, .int i_8, .int i_9, .ref a_6, .ref a_7, .ref a_8, .ref a_9, .ref a_10, .ref a_11, .ref a_12, .ref a_13, .ref a_14, .ref a_15, .ref a_16, .ref a_17, .ref a_18, .int i_10, .int i_11, .int i_12, .int i_13, .int i_14, .int i_15, .ref a_19, .int i_16, .ref a_20])), (a_5, .inl (cy 0, 600, .inl f_0)), (a_7, .inl (cy 1, 30, .inl (mm_g [i_17, i_18, i_19, i_20, i_21, i_22, i_23, i_24, i_25, i_26, i_27, i_28, i_29, i_30, i_31, i_32, i_33, i_34, i_35, i_36, i_37, i_38, i_39, i_40, i_41, i_42, i_43, i_44, i_45, i_46]))), (a_11, .inl (cy 1, 30, .inl g3)), (a_12, .inl (cy 1, 240, .inl f_2))]) hS
  have rg3 : mm_ar g3 0 8 := by rw [eg3]; exact mm_ar_upd (mm_ar_wk h36 (by decide)) (mm_wk mm_k0 (by decide)) _
  refine lv_aload_n hx hb dX12_textLine_16 rfl (lv_at hl 1 rfl) ?_
  refine mm_fini (va_runV (As := []) (rest := []) ⟨hx, hb, hml, hown, hts⟩ (M48_X12_wordHere l G cy H.size a_0 i_0 a_1 a_2 a_3 a_4 a_5 i_1 i_2 i_3 i_4 i_5 j_0 i_6 i_7 i_8 i_9 a_6 a_7 a_8 a_9 a_10 a_11 a_12 a_13 a_14 a_15 a_16 a_17 a_18 i_10 i_11 i_12 i_13 i_14 i_15 a_19 i_16 a_20 f_0 i_17 i_18 i_19 i_20 i_21 i_22 i_23 i_24 i_25 i_26 i_27 i_28 i_29 i_30 i_31 i_32 i_33 i_34 i_35 i_36 i_37 i_38 i_39 i_40 i_41 i_42 i_43 i_44 i_45 i_46 h0 h1 h2 h3 h4 h5 h6 h7 h8 h9 h10 h11 h12 h13 h14 h15 h16 h17 h18 h19 h20 h21 h22 h23 h24 h25 h26 h27 h28 h29 h30 h31 h32 h33 (mm_wk h34 (by decide)) h35 h42 h43 h44) (cwV 0 hts (mm_gV mm_w532 mm_w533 mm_w534 mm_w5 mm_w535) rfl rfl rfl hd_X12_wordHere ⟨by rw [hRf]; exact Nat.le_of_ble_eq_true rfl, by rw [hRl]; exact Nat.le_of_ble_eq_true rfl⟩) (mm_preV hK hZ hS hA hP hD [0, 1, 2] rfl rfl 0 rfl rfl rfl) rfl rfl hl.1 rfl (lv_room (Nat.le_of_ble_eq_true rfl)) dX12_textLine_17 ⟨by rw [hRc]; exact Nat.le_of_ble_eq_true rfl, by rw [hRs]; exact Nat.le_of_ble_eq_true rfl⟩) hP hD hS hA (fun u : Int32 × Int32 × Int32 × Int32 × Int64 × Int32 × Int32 => [(a_0, .inr (12, [.int i_0, .ref a_1, .ref a_2, .ref a_3, .ref a_4, .ref a_5, .int i_1, .int u.1, .int u.2.1, .int u.2.2.1, .int u.2.2.2.1, .long u.2.2.2.2.1, .int u.2.2.2.2.2.1, .int u.2.2.2.2.2.2, .int i_8, .int i_9, .ref a_6, .ref a_7, .ref a_8, .ref a_9, .ref a_10, .ref a_11, .ref a_12, .ref a_13, .ref a_14, .ref a_15, .ref a_16, .ref a_17, .ref a_18, .int i_10, .int i_11, .int i_12, .int i_13, .int i_14, .int i_15, .ref a_19, .int i_16, .ref a_20])), (a_5, .inl (cy 0, 600, .inl f_0)), (a_7, .inl (cy 1, 30, .inl (mm_g [i_17, i_18, i_19, i_20, i_21, i_22, i_23, i_24, i_25, i_26, i_27, i_28, i_29, i_30, i_31, i_32, i_33, i_34, i_35, i_36, i_37, i_38, i_39, i_40, i_41, i_42, i_43, i_44, i_45, i_46]))), (a_11, .inl (cy 1, 30, .inl g3)), (a_12, .inl (cy 1, 240, .inl f_2))]) [0, 1, 2] [3, 4] (n := 5) (fun _ => rfl) (by decide +kernel) (by decide +kernel) rfl (fun _ => rfl) (wr := [(a_11, .inl (cy 1, 30, .inl g3)), (a_12, .inl (cy 1, 240, .inl f_2))]) rfl (fun _ => rfl) (fun _ => @rfl _ ([a_0, a_5, a_7] : List Nat)) ?_
  clear hP hD hS
  clear H locs
  intro v11 u
  obtain ⟨n4, n5, n6, n7, n8, n9, n10⟩ := u
  intro H locs hw (hP : va_P G vwCl [(a_0, .inr (12, [.int i_0, .ref a_1, .ref a_2, .ref a_3, .ref a_4, .ref a_5, .int i_1, .int n4, .int n5, .int n6, .int n7, .long n8, .int n9, .int n10, .int i_8, .int i_9, .ref a_6, .ref a_7, .ref a_8, .ref a_9, .ref a_10, .ref a_11, .ref a_12, .ref a_13, .ref a_14, .ref a_15, .ref a_16, .ref a_17, .ref a_18, .int i_10, .int i_11, .int i_12, .int i_13, .int i_14, .int i_15, .ref a_19, .int i_16, .ref a_20])), (a_5, .inl (cy 0, 600, .inl f_0)), (a_7, .inl (cy 1, 30, .inl (mm_g [i_17, i_18, i_19, i_20, i_21, i_22, i_23, i_24, i_25, i_26, i_27, i_28, i_29, i_30, i_31, i_32, i_33, i_34, i_35, i_36, i_37, i_38, i_39, i_40, i_41, i_42, i_43, i_44, i_45, i_46]))), (a_11, .inl (cy 1, 30, .inl g3)), (a_12, .inl (cy 1, 240, .inl f_2))] H) (hD : va_D A [(a_0, .inr (12, [.int i_0, .ref a_1, .ref a_2, .ref a_3, .ref a_4, .ref a_5, .int i_1, .int n4, .int n5, .int n6, .int n7, .long n8, .int n9, .int n10, .int i_8, .int i_9, .ref a_6, .ref a_7, .ref a_8, .ref a_9, .ref a_10, .ref a_11, .ref a_12, .ref a_13, .ref a_14, .ref a_15, .ref a_16, .ref a_17, .ref a_18, .int i_10, .int i_11, .int i_12, .int i_13, .int i_14, .int i_15, .ref a_19, .int i_16, .ref a_20])), (a_5, .inl (cy 0, 600, .inl f_0)), (a_7, .inl (cy 1, 30, .inl (mm_g [i_17, i_18, i_19, i_20, i_21, i_22, i_23, i_24, i_25, i_26, i_27, i_28, i_29, i_30, i_31, i_32, i_33, i_34, i_35, i_36, i_37, i_38, i_39, i_40, i_41, i_42, i_43, i_44, i_45, i_46]))), (a_11, .inl (cy 1, 30, .inl g3)), (a_12, .inl (cy 1, 240, .inl f_2))]) hS
  obtain ⟨w12, w13, w14, w15, w16, w17, w18, w19, w20, hw⟩ := hw
  replace w16 : (n6 : Int32).toInt ≤ (n4 : Int32).toInt := w16
  replace w17 : (n4 : Int32).toInt ≤ (i_1 : Int32).toInt := w17
  replace w18 : mm_tk n5 n6 n4 := w18
  replace w19 : (i_4 : Int32).toInt ≤ (n6 : Int32).toInt := w19
  replace w20 : mm_b0 i_6 n9 := w20
  obtain ⟨w21, w22, w23⟩ := hw
  replace w22 : (v11 : Int32).toInt ≤ (i_43 : Int32).toInt := w22
  replace w23 : mm_nv n9 v11 i_3 i_5 := w23
  refine lv_istore_n (lv' := [(2, .int v11), (1, .int v2), (0, .ref a_0)]) hx hb dX12_textLine_20 rfl hl (by decide) rfl ?_
  clear hl
  clear ls
  intro ls hl
  have L21_133 : ∀ (n : Nat) (x21_2_115 : Int32) (y21_0_7_116 : Int32) (y21_0_8_117 : Int32) (y21_0_9_118 : Int32) (y21_0_10_119 : Int32) (y21_0_11_120 : Int64) (y21_0_12_121 : Int32) (y21_0_13_122 : Int32) (z21_3_123 : Nat → Int32) (z21_4_124 : Nat → Int32), mm_rg x21_2_115 0 9 → mm_rg y21_0_7_116 0 600 → mm_rg y21_0_8_117 0 4 → mm_rg y21_0_9_118 0 600 → mm_rg y21_0_12_121 0 3 → mm_ar z21_3_123 0 8 → mm_ar z21_4_124 0 9 → (y21_0_9_118 : Int32).toInt ≤ (y21_0_7_116 : Int32).toInt → (y21_0_7_116 : Int32).toInt ≤ (i_1 : Int32).toInt → mm_tk y21_0_8_117 y21_0_9_118 y21_0_7_116 → (i_4 : Int32).toInt ≤ (y21_0_9_118 : Int32).toInt → mm_b7 z21_3_123 v2 y21_0_12_121 → mm_fr f_1 z21_3_123 24 → mm_fr f_2 z21_4_124 192 → mm_txl f_1 f_2 z21_3_123 z21_4_124 v2 i_43 → (x21_2_115 : Int32).toInt ≤ (i_43 : Int32).toInt → (if (y21_0_12_121 : Int32).toInt = 0 then (8 - (z21_3_123 (v2 : Int32).toNatClampNeg).toInt).toNat + 1 else 0) < n → ∀ (H : Heap) (locs : List Loc), va_P G vwCl [(a_0, .inr (12, [.int i_0, .ref a_1, .ref a_2, .ref a_3, .ref a_4, .ref a_5, .int i_1, .int y21_0_7_116, .int y21_0_8_117, .int y21_0_9_118, .int y21_0_10_119, .long y21_0_11_120, .int y21_0_12_121, .int y21_0_13_122, .int i_8, .int i_9, .ref a_6, .ref a_7, .ref a_8, .ref a_9, .ref a_10, .ref a_11, .ref a_12, .ref a_13, .ref a_14, .ref a_15, .ref a_16, .ref a_17, .ref a_18, .int i_10, .int i_11, .int i_12, .int i_13, .int i_14, .int i_15, .ref a_19, .int i_16, .ref a_20])), (a_5, .inl (cy 0, 600, .inl f_0)), (a_7, .inl (cy 1, 30, .inl (mm_g [i_17, i_18, i_19, i_20, i_21, i_22, i_23, i_24, i_25, i_26, i_27, i_28, i_29, i_30, i_31, i_32, i_33, i_34, i_35, i_36, i_37, i_38, i_39, i_40, i_41, i_42, i_43, i_44, i_45, i_46]))), (a_11, .inl (cy 1, 30, .inl z21_3_123)), (a_12, .inl (cy 1, 240, .inl z21_4_124))] H → va_D A [(a_0, .inr (12, [.int i_0, .ref a_1, .ref a_2, .ref a_3, .ref a_4, .ref a_5, .int i_1, .int y21_0_7_116, .int y21_0_8_117, .int y21_0_9_118, .int y21_0_10_119, .long y21_0_11_120, .int y21_0_12_121, .int y21_0_13_122, .int i_8, .int i_9, .ref a_6, .ref a_7, .ref a_8, .ref a_9, .ref a_10, .ref a_11, .ref a_12, .ref a_13, .ref a_14, .ref a_15, .ref a_16, .ref a_17, .ref a_18, .int i_10, .int i_11, .int i_12, .int i_13, .int i_14, .int i_15, .ref a_19, .int i_16, .ref a_20])), (a_5, .inl (cy 0, 600, .inl f_0)), (a_7, .inl (cy 1, 30, .inl (mm_g [i_17, i_18, i_19, i_20, i_21, i_22, i_23, i_24, i_25, i_26, i_27, i_28, i_29, i_30, i_31, i_32, i_33, i_34, i_35, i_36, i_37, i_38, i_39, i_40, i_41, i_42, i_43, i_44, i_45, i_46]))), (a_11, .inl (cy 1, 30, .inl z21_3_123)), (a_12, .inl (cy 1, 240, .inl z21_4_124))] → va_S A s.heap H locs → ∀ (ls : Array Slot), lv_has ls 3 [(2, .int x21_2_115), (1, .int v2), (0, .ref a_0)] → W p l e R s m args below meth c H locs 0 0 Q (F0 m 21 ls []) := by
    intro n
    induction n with
    | zero => intro x21_2_115 y21_0_7_116 y21_0_8_117 y21_0_9_118 y21_0_10_119 y21_0_11_120 y21_0_12_121 y21_0_13_122 z21_3_123 z21_4_124 rx21_2_115 ry21_0_7_116 ry21_0_8_117 ry21_0_9_118 ry21_0_12_121 rz21_3_123 rz21_4_124 w125 w126 w127 w128 w129 w130 w131 w132 w133 hm; exact absurd hm (Nat.not_lt_zero _)
    | succ n ih21 =>
      intro x21_2_115 y21_0_7_116 y21_0_8_117 y21_0_9_118 y21_0_10_119 y21_0_11_120 y21_0_12_121 y21_0_13_122 z21_3_123 z21_4_124 rx21_2_115 ry21_0_7_116 ry21_0_8_117 ry21_0_9_118 ry21_0_12_121 rz21_3_123 rz21_4_124 w125 w126 w127 w128 w129 w130 w131 w132 w133 hm21 H locs hP hD hS ls hl
      refine lv_aload_n hx hb dX12_textLine_21 rfl (lv_at hl 2 rfl) ?_
      refine va_get (D := G) (ci := 12) (v := .int y21_0_12_121) (C := RX12) (T := TX12) (N := 38) hx hb hts (mm_i inlX12) hown hK.1 hP 0 rfl rfl 12 (by decide) (mm_h hts mm_w436) (fun _ h9 => h9) rfl dX12_textLine_22 ?_
      refine lv_if_ne (tgt := 106) hx hb dX12_textLine_25 (by decide) (fun c135 => ?_) (fun c135 => ?_)
      · have q136 := mm_neL (lo := 1) (mm_ne c135) ry21_0_12_121 mm_k0 (by decide) (by decide)
        refine lv_aload_n hx hb dX12_textLine_106 rfl (lv_at hl 2 rfl) ?_
        refine lv_iconst (v := 4) hx hb dX12_textLine_107 (by decide) ?_
        refine lv_aload_n hx hb dX12_textLine_108 rfl (lv_at hl 2 rfl) ?_
        refine lv_iconst (v := 4) hx hb dX12_textLine_109 (by decide) ?_
        refine mm_finir (va_runV (As := [.int 4]) (rest := [.int 4, .ref a_0]) ⟨hx, hb, hml, hown, hts⟩ (M43_X12_hasRead l G cy H.size a_0 i_0 a_1 a_2 a_3 a_4 a_5 i_1 y21_0_7_116 y21_0_8_117 y21_0_9_118 y21_0_10_119 y21_0_11_120 y21_0_12_121 y21_0_13_122 i_8 i_9 a_6 a_7 a_8 a_9 a_10 a_11 a_12 a_13 a_14 a_15 a_16 a_17 a_18 i_10 i_11 i_12 i_13 i_14 i_15 a_19 i_16 a_20 i_17 i_18 i_19 i_20 i_21 i_22 i_23 i_24 i_25 i_26 i_27 i_28 i_29 i_30 i_31 i_32 i_33 i_34 i_35 i_36 i_37 i_38 i_39 i_40 i_41 i_42 i_43 i_44 i_45 i_46 h6 h7 h8 h9 h10 h11 h12 h13 h14 h15 h16 h17 h18 h19 h20 h21 h22 h23 h24 h25 h26 h27 h28 h29 h30 h31 h32 h33 (mm_wk h34 (by decide)) h35) (cwV 1 hts (mm_gV mm_w503 mm_w504 mm_w505 mm_w5 mm_w506) rfl rfl rfl hd_X12_hasRead ⟨by rw [hRf]; exact Nat.le_of_ble_eq_true rfl, by rw [hRl]; exact Nat.le_of_ble_eq_true rfl⟩) (mm_preV hK hZ hS hA hP hD [0, 2] rfl rfl 0 rfl rfl rfl) rfl rfl hl.1 rfl (lv_room (Nat.le_of_ble_eq_true rfl)) dX12_textLine_110 ⟨by rw [hRc]; exact Nat.le_of_ble_eq_true rfl, by rw [hRs]; exact Nat.le_of_ble_eq_true rfl⟩) hP hD hS hA [0, 2] rfl (fun _ => rfl) ?_
        clear hP hD hS
        clear H locs
        intro v137 _u H locs hw hP hD hS
        subst hw
        refine lv_iconst (v := 1) hx hb dX12_textLine_113 (by decide) ?_
        refine lv_iadd hx hb dX12_textLine_114 ?_
        refine lv_topi (fun v138 ev138 => ?_)
        have rv138 : mm_rg v138 1 1 := mm_add ev138 h34 mm_k1 (by decide) (by decide)
        have tv138 := mm_addEc ev138 h34 mm_k1 (by decide) (k := 1) (by decide)
        refine mm_finv (va_runV (As := [.int 4, .int v138]) (rest := []) ⟨hx, hb, hml, hown, hts⟩ (M75_X12_tells l G cy H.size a_0 v138 i_0 a_1 a_2 a_3 a_4 a_5 i_1 y21_0_7_116 y21_0_8_117 y21_0_9_118 y21_0_10_119 y21_0_11_120 y21_0_12_121 y21_0_13_122 i_8 i_9 a_6 a_7 a_8 a_9 a_10 a_11 a_12 a_13 a_14 a_15 a_16 a_17 a_18 i_10 i_11 i_12 i_13 i_14 i_15 a_19 i_16 a_20 i_17 i_18 i_19 i_20 i_21 i_22 i_23 i_24 i_25 i_26 i_27 i_28 i_29 i_30 i_31 i_32 i_33 i_34 i_35 i_36 i_37 i_38 i_39 i_40 i_41 i_42 i_43 i_44 i_45 i_46 rv138 h6 h7 h8 h9 h10 h11 h12 h13 h14 h15 h16 h17 h18 h19 h20 h21 h22 h23 h24 h25 h26 h27 h28 h29 h30 h31 h32 h33 (mm_wk h34 (by decide)) h35) (cwV 2 hts (mm_gV mm_w441 mm_w442 mm_w443 mm_w5 mm_w444) rfl rfl rfl hd_X12_tells ⟨by rw [hRf]; exact Nat.le_of_ble_eq_true rfl, by rw [hRl]; exact Nat.le_of_ble_eq_true rfl⟩) (mm_preV hK hZ hS hA hP hD [0, 2] rfl rfl 0 rfl rfl rfl) rfl rfl hl.1 rfl (lv_room (Nat.le_of_ble_eq_true rfl)) dX12_textLine_115 ⟨by rw [hRc]; exact Nat.le_of_ble_eq_true rfl, by rw [hRs]; exact Nat.le_of_ble_eq_true rfl⟩) hP hD hS hA (fun u : Unit => [(a_0, .inr (12, [.int i_0, .ref a_1, .ref a_2, .ref a_3, .ref a_4, .ref a_5, .int i_1, .int y21_0_7_116, .int y21_0_8_117, .int y21_0_9_118, .int y21_0_10_119, .long y21_0_11_120, .int y21_0_12_121, .int y21_0_13_122, .int i_8, .int i_9, .ref a_6, .ref a_7, .ref a_8, .ref a_9, .ref a_10, .ref a_11, .ref a_12, .ref a_13, .ref a_14, .ref a_15, .ref a_16, .ref a_17, .ref a_18, .int i_10, .int i_11, .int i_12, .int i_13, .int i_14, .int i_15, .ref a_19, .int i_16, .ref a_20])), (a_5, .inl (cy 0, 600, .inl f_0)), (a_7, .inl (cy 1, 30, .inl (mm_g [i_17, i_18, i_19, i_20, i_21, i_22, i_23, i_24, i_25, i_26, i_27, i_28, i_29, i_30, i_31, i_32, i_33, i_34, i_35, i_36, i_37, i_38, i_39, i_40, i_41, i_42, i_43, i_44, v138, i_46]))), (a_11, .inl (cy 1, 30, .inl z21_3_123)), (a_12, .inl (cy 1, 240, .inl z21_4_124))]) [0, 2] [1, 3, 4] (n := 5) (fun _ => rfl) (by decide +kernel) (by decide +kernel) rfl (fun _ => rfl) (wr := [(a_5, .inl (cy 0, 600, .inl f_0)), (a_11, .inl (cy 1, 30, .inl z21_3_123)), (a_12, .inl (cy 1, 240, .inl z21_4_124))]) rfl (fun _ => rfl) (fun _ => @rfl _ ([a_0, a_7] : List Nat)) ?_
        clear hP hD hS
        clear H locs
        intro _u H locs hw (hP : va_P G vwCl [(a_0, .inr (12, [.int i_0, .ref a_1, .ref a_2, .ref a_3, .ref a_4, .ref a_5, .int i_1, .int y21_0_7_116, .int y21_0_8_117, .int y21_0_9_118, .int y21_0_10_119, .long y21_0_11_120, .int y21_0_12_121, .int y21_0_13_122, .int i_8, .int i_9, .ref a_6, .ref a_7, .ref a_8, .ref a_9, .ref a_10, .ref a_11, .ref a_12, .ref a_13, .ref a_14, .ref a_15, .ref a_16, .ref a_17, .ref a_18, .int i_10, .int i_11, .int i_12, .int i_13, .int i_14, .int i_15, .ref a_19, .int i_16, .ref a_20])), (a_5, .inl (cy 0, 600, .inl f_0)), (a_7, .inl (cy 1, 30, .inl (mm_g [i_17, i_18, i_19, i_20, i_21, i_22, i_23, i_24, i_25, i_26, i_27, i_28, i_29, i_30, i_31, i_32, i_33, i_34, i_35, i_36, i_37, i_38, i_39, i_40, i_41, i_42, i_43, i_44, v138, i_46]))), (a_11, .inl (cy 1, 30, .inl z21_3_123)), (a_12, .inl (cy 1, 240, .inl z21_4_124))] H) (hD : va_D A [(a_0, .inr (12, [.int i_0, .ref a_1, .ref a_2, .ref a_3, .ref a_4, .ref a_5, .int i_1, .int y21_0_7_116, .int y21_0_8_117, .int y21_0_9_118, .int y21_0_10_119, .long y21_0_11_120, .int y21_0_12_121, .int y21_0_13_122, .int i_8, .int i_9, .ref a_6, .ref a_7, .ref a_8, .ref a_9, .ref a_10, .ref a_11, .ref a_12, .ref a_13, .ref a_14, .ref a_15, .ref a_16, .ref a_17, .ref a_18, .int i_10, .int i_11, .int i_12, .int i_13, .int i_14, .int i_15, .ref a_19, .int i_16, .ref a_20])), (a_5, .inl (cy 0, 600, .inl f_0)), (a_7, .inl (cy 1, 30, .inl (mm_g [i_17, i_18, i_19, i_20, i_21, i_22, i_23, i_24, i_25, i_26, i_27, i_28, i_29, i_30, i_31, i_32, i_33, i_34, i_35, i_36, i_37, i_38, i_39, i_40, i_41, i_42, i_43, i_44, v138, i_46]))), (a_11, .inl (cy 1, 30, .inl z21_3_123)), (a_12, .inl (cy 1, 240, .inl z21_4_124))]) hS
        have w139 : mm_txs z21_3_123 z21_4_124 0 i_19 i_21 := (mm_txs_fr h38 w130 w131 (by decide))
        have w140 : mm_txs z21_3_123 z21_4_124 1 i_25 i_27 := (mm_txs_fr h39 w130 w131 (by decide))
        have w141 : mm_txs z21_3_123 z21_4_124 2 i_31 i_33 := (mm_txs_fr h40 w130 w131 (by decide))
        have w142 : mm_txs z21_3_123 z21_4_124 3 i_37 i_39 := (mm_txs_fr h41 w130 w131 (by decide))
        have w143 : mm_txs z21_3_123 z21_4_124 4 i_43 v138 := (mm_txs_t h45 w132 (by have := tv2; omega) (by have := tv138; omega) h34 (by decide))
        subst hAe
        rw [hQ]
        exact W.vret hx hb hr (fun t ht hW => ⟨⟨(y21_0_7_116, y21_0_8_117, y21_0_9_118, y21_0_10_119, y21_0_11_120, y21_0_12_121, y21_0_13_122, v138, z21_3_123, z21_4_124), rfl, ⟨ry21_0_7_116, ry21_0_8_117, ry21_0_9_118, (mm_wk q136 (by decide)), rv138, rz21_3_123, rz21_4_124, w139, w140, w141, w142, w125, w126, w127, w128, w143, w130, w131⟩, by rw [ht]; exact hP, hK.warm hW, hD⟩, hS.F ht⟩) hS.2.2 dX12_textLine_118
      · have q144 := mm_eqI (lo := 0) (hi := 0) c135 ry21_0_12_121 mm_k0 (by decide)
        refine lv_aload_n hx hb dX12_textLine_28 rfl (lv_at hl 2 rfl) ?_
        refine va_get (D := G) (ci := 12) (v := .ref a_12) (C := RX12) (T := TX12) (N := 38) hx hb hts (mm_i inlX12) hown hK.1 hP 0 rfl rfl 22 (by decide) (mm_h hts mm_w154) (fun _ h9 => h9) rfl dX12_textLine_29 ?_
        refine lv_bipush (v := 8) hx hb dX12_textLine_32 (by decide) ?_
        refine lv_iload_n hx hb dX12_textLine_34 rfl (lv_at hl 1 rfl) ?_
        refine lv_imul hx hb dX12_textLine_35 ?_
        refine lv_topi (fun v145 ev145 => ?_)
        have rv145 : mm_rg v145 192 192 := mm_mul ev145 mm_k8 rv2 (by decide) (by decide)
        have tv145 := mm_mulEc ev145 mm_k8 rv2 (by decide) (k := 8) (by decide)
        refine lv_aload_n hx hb dX12_textLine_36 rfl (lv_at hl 2 rfl) ?_
        refine va_get (D := G) (ci := 12) (v := .ref a_11) (C := RX12) (T := TX12) (N := 38) hx hb hts (mm_i inlX12) hown hK.1 hP 0 rfl rfl 21 (by decide) (mm_h hts mm_w153) (fun _ h9 => h9) rfl dX12_textLine_37 ?_
        refine lv_iload_n hx hb dX12_textLine_40 rfl (lv_at hl 1 rfl) ?_
        refine va_iald hx hb hK.1 hP 3 1 rfl rfl (mm_in rv2 (by decide)) dX12_textLine_41 ?_
        refine lv_topi (fun v146 ev146 => ?_)
        have rv146 : mm_rg v146 0 8 := mm_eqv ev146 (rz21_3_123 _)
        have q147 : mm_rg v146 0 7 := mm_b7_ld w129 q144 ev146 rv146 (by decide)
        refine lv_iadd hx hb dX12_textLine_42 ?_
        refine lv_topi (fun v148 ev148 => ?_)
        have rv148 : mm_rg v148 192 199 := mm_add ev148 rv145 q147 (by decide) (by decide)
        have tv148 := mm_addE ev148 rv145 q147 (by decide)
        refine lv_iload_n hx hb dX12_textLine_43 rfl (lv_at hl 0 rfl) ?_
        refine va_iast hx hb hK.1 hP hD hS 4 1 rfl rfl (mm_in rv148 (by decide)) dX12_textLine_44 ?_
        clear hP hD hS
        clear H locs
        obtain ⟨g149, eg149⟩ : ∃ z : Nat → Int32, z = upd z21_4_124 v148.toNatClampNeg x21_2_115 := ⟨_, rfl⟩
        rw [← eg149]
        intro H locs (hP : va_P G vwCl [(a_0, .inr (12, [.int i_0, .ref a_1, .ref a_2, .ref a_3, .ref a_4, .ref a_5, .int i_1, .int y21_0_7_116, .int y21_0_8_117, .int y21_0_9_118, .int y21_0_10_119, .long y21_0_11_120, .int y21_0_12_121, .int y21_0_13_122, .int i_8, .int i_9, .ref a_6, .ref a_7, .ref a_8, .ref a_9, .ref a_10, .ref a_11, .ref a_12, .ref a_13, .ref a_14, .ref a_15, .ref a_16, .ref a_17, .ref a_18, .int i_10, .int i_11, .int i_12, .int i_13, .int i_14, .int i_15, .ref a_19, .int i_16, .ref a_20])), (a_5, .inl (cy 0, 600, .inl f_0)), (a_7, .inl (cy 1, 30, .inl (mm_g [i_17, i_18, i_19, i_20, i_21, i_22, i_23, i_24, i_25, i_26, i_27, i_28, i_29, i_30, i_31, i_32, i_33, i_34, i_35, i_36, i_37, i_38, i_39, i_40, i_41, i_42, i_43, i_44, i_45, i_46]))), (a_11, .inl (cy 1, 30, .inl z21_3_123)), (a_12, .inl (cy 1, 240, .inl g149))] H) (hD : va_D A [(a_0, .inr (12, [.int i_0, .ref a_1, .ref a_2, .ref a_3, .ref a_4, .ref a_5, .int i_1, .int y21_0_7_116, .int y21_0_8_117, .int y21_0_9_118, .int y21_0_10_119, .long y21_0_11_120, .int y21_0_12_121, .int y21_0_13_122, .int i_8, .int i_9, .ref a_6, .ref a_7, .ref a_8, .ref a_9, .ref a_10, .ref a_11, .ref a_12, .ref a_13, .ref a_14, .ref a_15, .ref a_16, .ref a_17, .ref a_18, .int i_10, .int i_11, .int i_12, .int i_13, .int i_14, .int i_15, .ref a_19, .int i_16, .ref a_20])), (a_5, .inl (cy 0, 600, .inl f_0)), (a_7, .inl (cy 1, 30, .inl (mm_g [i_17, i_18, i_19, i_20, i_21, i_22, i_23, i_24, i_25, i_26, i_27, i_28, i_29, i_30, i_31, i_32, i_33, i_34, i_35, i_36, i_37, i_38, i_39, i_40, i_41, i_42, i_43, i_44, i_45, i_46]))), (a_11, .inl (cy 1, 30, .inl z21_3_123)), (a_12, .inl (cy 1, 240, .inl g149))]) hS
        have rg149 : mm_ar g149 0 9 := by rw [eg149]; exact mm_ar_upd (mm_ar_wk rz21_4_124 (by decide)) (mm_wk rx21_2_115 (by decide)) _
        refine lv_aload_n hx hb dX12_textLine_45 rfl (lv_at hl 2 rfl) ?_
        refine va_get (D := G) (ci := 12) (v := .ref a_11) (C := RX12) (T := TX12) (N := 38) hx hb hts (mm_i inlX12) hown hK.1 hP 0 rfl rfl 21 (by decide) (mm_h hts mm_w153) (fun _ h9 => h9) rfl dX12_textLine_46 ?_
        refine lv_iload_n hx hb dX12_textLine_49 rfl (lv_at hl 1 rfl) ?_
        refine lv_dup2_11 hx hb dX12_textLine_50 rfl rfl ?_
        refine va_iald hx hb hK.1 hP 3 1 rfl rfl (mm_in rv2 (by decide)) dX12_textLine_51 ?_
        refine lv_topi (fun v150 ev150 => ?_)
        have rv150 : mm_rg v150 0 8 := mm_eqv ev150 (rz21_3_123 _)
        have q151 : mm_rg v150 0 7 := mm_b7_ld w129 q144 ev150 rv150 (by decide)
        obtain rfl : v146 = v150 := ev146.trans ev150.symm
        refine lv_iconst (v := 1) hx hb dX12_textLine_52 (by decide) ?_
        refine lv_iadd hx hb dX12_textLine_53 ?_
        refine lv_topi (fun v152 ev152 => ?_)
        have rv152 : mm_rg v152 1 8 := mm_add ev152 q147 mm_k1 (by decide) (by decide)
        have tv152 := mm_addEc ev152 q147 mm_k1 (by decide) (k := 1) (by decide)
        refine va_iast hx hb hK.1 hP hD hS 3 1 rfl rfl (mm_in rv2 (by decide)) dX12_textLine_54 ?_
        clear hP hD hS
        clear H locs
        obtain ⟨g153, eg153⟩ : ∃ z : Nat → Int32, z = upd z21_3_123 v2.toNatClampNeg v152 := ⟨_, rfl⟩
        rw [← eg153]
        intro H locs (hP : va_P G vwCl [(a_0, .inr (12, [.int i_0, .ref a_1, .ref a_2, .ref a_3, .ref a_4, .ref a_5, .int i_1, .int y21_0_7_116, .int y21_0_8_117, .int y21_0_9_118, .int y21_0_10_119, .long y21_0_11_120, .int y21_0_12_121, .int y21_0_13_122, .int i_8, .int i_9, .ref a_6, .ref a_7, .ref a_8, .ref a_9, .ref a_10, .ref a_11, .ref a_12, .ref a_13, .ref a_14, .ref a_15, .ref a_16, .ref a_17, .ref a_18, .int i_10, .int i_11, .int i_12, .int i_13, .int i_14, .int i_15, .ref a_19, .int i_16, .ref a_20])), (a_5, .inl (cy 0, 600, .inl f_0)), (a_7, .inl (cy 1, 30, .inl (mm_g [i_17, i_18, i_19, i_20, i_21, i_22, i_23, i_24, i_25, i_26, i_27, i_28, i_29, i_30, i_31, i_32, i_33, i_34, i_35, i_36, i_37, i_38, i_39, i_40, i_41, i_42, i_43, i_44, i_45, i_46]))), (a_11, .inl (cy 1, 30, .inl g153)), (a_12, .inl (cy 1, 240, .inl g149))] H) (hD : va_D A [(a_0, .inr (12, [.int i_0, .ref a_1, .ref a_2, .ref a_3, .ref a_4, .ref a_5, .int i_1, .int y21_0_7_116, .int y21_0_8_117, .int y21_0_9_118, .int y21_0_10_119, .long y21_0_11_120, .int y21_0_12_121, .int y21_0_13_122, .int i_8, .int i_9, .ref a_6, .ref a_7, .ref a_8, .ref a_9, .ref a_10, .ref a_11, .ref a_12, .ref a_13, .ref a_14, .ref a_15, .ref a_16, .ref a_17, .ref a_18, .int i_10, .int i_11, .int i_12, .int i_13, .int i_14, .int i_15, .ref a_19, .int i_16, .ref a_20])), (a_5, .inl (cy 0, 600, .inl f_0)), (a_7, .inl (cy 1, 30, .inl (mm_g [i_17, i_18, i_19, i_20, i_21, i_22, i_23, i_24, i_25, i_26, i_27, i_28, i_29, i_30, i_31, i_32, i_33, i_34, i_35, i_36, i_37, i_38, i_39, i_40, i_41, i_42, i_43, i_44, i_45, i_46]))), (a_11, .inl (cy 1, 30, .inl g153)), (a_12, .inl (cy 1, 240, .inl g149))]) hS
        have rg153 : mm_ar g153 0 8 := by rw [eg153]; exact mm_ar_upd (mm_ar_wk rz21_3_123 (by decide)) (mm_wk rv152 (by decide)) _
        refine lv_aload_n hx hb dX12_textLine_55 rfl (lv_at hl 2 rfl) ?_
        refine va_get (D := G) (ci := 12) (v := .int y21_0_8_117) (C := RX12) (T := TX12) (N := 38) hx hb hts (mm_i inlX12) hown hK.1 hP 0 rfl rfl 8 (by decide) (mm_h hts mm_w432) (fun _ h9 => h9) rfl dX12_textLine_56 ?_
        refine lv_iconst (v := 2) hx hb dX12_textLine_59 (by decide) ?_
        refine lv_icmp_eq (tgt := 66) hx hb dX12_textLine_60 (by decide) (fun c154 => ?_) (fun c154 => ?_)
        · have q155 := mm_eqI (lo := 2) (hi := 2) c154 ry21_0_8_117 mm_k2 (by decide)
          refine lv_aload_n hx hb dX12_textLine_66 rfl (lv_at hl 2 rfl) ?_
          refine va_get (D := G) (ci := 12) (v := .ref a_11) (C := RX12) (T := TX12) (N := 38) hx hb hts (mm_i inlX12) hown hK.1 hP 0 rfl rfl 21 (by decide) (mm_h hts mm_w153) (fun _ h9 => h9) rfl dX12_textLine_67 ?_
          refine lv_iload_n hx hb dX12_textLine_70 rfl (lv_at hl 1 rfl) ?_
          refine va_iald hx hb hK.1 hP 3 1 rfl rfl (mm_in rv2 (by decide)) dX12_textLine_71 ?_
          refine lv_topi (fun v156 ev156 => ?_)
          obtain rfl : v152 = v156 := (ev156.trans (by rw [eg153]; exact pk_us)).symm
          refine lv_bipush (v := 8) hx hb dX12_textLine_72 (by decide) ?_
          refine lv_icmp_ne (tgt := 98) hx hb dX12_textLine_74 (by decide) (fun c157 => ?_) (fun c157 => ?_)
          · have q158 := mm_neH (hi := 7) (mm_ne c157) rv152 mm_k8 (by decide) (by decide)
            have q159 : mm_rg v146 0 6 := mm_unadd tv152 q158 q147 (by decide) (by decide)
            refine lv_aload_n hx hb dX12_textLine_98 rfl (lv_at hl 2 rfl) ?_
            refine mm_fini (va_runV (As := []) (rest := []) ⟨hx, hb, hml, hown, hts⟩ (M50_X12_wordHere l G cy H.size a_0 i_0 a_1 a_2 a_3 a_4 a_5 i_1 y21_0_7_116 y21_0_8_117 y21_0_9_118 y21_0_10_119 y21_0_11_120 y21_0_12_121 y21_0_13_122 i_8 i_9 a_6 a_7 a_8 a_9 a_10 a_11 a_12 a_13 a_14 a_15 a_16 a_17 a_18 i_10 i_11 i_12 i_13 i_14 i_15 a_19 i_16 a_20 f_0 i_17 i_18 i_19 i_20 i_21 i_22 i_23 i_24 i_25 i_26 i_27 i_28 i_29 i_30 i_31 i_32 i_33 i_34 i_35 i_36 i_37 i_38 i_39 i_40 i_41 i_42 i_43 i_44 i_45 i_46 h0 ry21_0_7_116 (mm_wk q155 (by decide)) ry21_0_9_118 q144 h5 h6 h7 h8 h9 h10 h11 h12 h13 h14 h15 h16 h17 h18 h19 h20 h21 h22 h23 h24 h25 h26 h27 h28 h29 h30 h31 h32 h33 (mm_wk h34 (by decide)) h35 w125 w126 w127) (cwV 0 hts (mm_gV mm_w532 mm_w533 mm_w534 mm_w5 mm_w535) rfl rfl rfl hd_X12_wordHere ⟨by rw [hRf]; exact Nat.le_of_ble_eq_true rfl, by rw [hRl]; exact Nat.le_of_ble_eq_true rfl⟩) (mm_preV hK hZ hS hA hP hD [0, 1, 2] rfl rfl 0 rfl rfl rfl) rfl rfl hl.1 rfl (lv_room (Nat.le_of_ble_eq_true rfl)) dX12_textLine_99 ⟨by rw [hRc]; exact Nat.le_of_ble_eq_true rfl, by rw [hRs]; exact Nat.le_of_ble_eq_true rfl⟩) hP hD hS hA (fun u : Int32 × Int32 × Int32 × Int32 × Int64 × Int32 × Int32 => [(a_0, .inr (12, [.int i_0, .ref a_1, .ref a_2, .ref a_3, .ref a_4, .ref a_5, .int i_1, .int u.1, .int u.2.1, .int u.2.2.1, .int u.2.2.2.1, .long u.2.2.2.2.1, .int u.2.2.2.2.2.1, .int u.2.2.2.2.2.2, .int i_8, .int i_9, .ref a_6, .ref a_7, .ref a_8, .ref a_9, .ref a_10, .ref a_11, .ref a_12, .ref a_13, .ref a_14, .ref a_15, .ref a_16, .ref a_17, .ref a_18, .int i_10, .int i_11, .int i_12, .int i_13, .int i_14, .int i_15, .ref a_19, .int i_16, .ref a_20])), (a_5, .inl (cy 0, 600, .inl f_0)), (a_7, .inl (cy 1, 30, .inl (mm_g [i_17, i_18, i_19, i_20, i_21, i_22, i_23, i_24, i_25, i_26, i_27, i_28, i_29, i_30, i_31, i_32, i_33, i_34, i_35, i_36, i_37, i_38, i_39, i_40, i_41, i_42, i_43, i_44, i_45, i_46]))), (a_11, .inl (cy 1, 30, .inl g153)), (a_12, .inl (cy 1, 240, .inl g149))]) [0, 1, 2] [3, 4] (n := 5) (fun _ => rfl) (by decide +kernel) (by decide +kernel) rfl (fun _ => rfl) (wr := [(a_11, .inl (cy 1, 30, .inl g153)), (a_12, .inl (cy 1, 240, .inl g149))]) rfl (fun _ => rfl) (fun _ => @rfl _ ([a_0, a_5, a_7] : List Nat)) ?_
            clear hP hD hS
            clear H locs
            intro v167 u
            obtain ⟨n160, n161, n162, n163, n164, n165, n166⟩ := u
            intro H locs hw (hP : va_P G vwCl [(a_0, .inr (12, [.int i_0, .ref a_1, .ref a_2, .ref a_3, .ref a_4, .ref a_5, .int i_1, .int n160, .int n161, .int n162, .int n163, .long n164, .int n165, .int n166, .int i_8, .int i_9, .ref a_6, .ref a_7, .ref a_8, .ref a_9, .ref a_10, .ref a_11, .ref a_12, .ref a_13, .ref a_14, .ref a_15, .ref a_16, .ref a_17, .ref a_18, .int i_10, .int i_11, .int i_12, .int i_13, .int i_14, .int i_15, .ref a_19, .int i_16, .ref a_20])), (a_5, .inl (cy 0, 600, .inl f_0)), (a_7, .inl (cy 1, 30, .inl (mm_g [i_17, i_18, i_19, i_20, i_21, i_22, i_23, i_24, i_25, i_26, i_27, i_28, i_29, i_30, i_31, i_32, i_33, i_34, i_35, i_36, i_37, i_38, i_39, i_40, i_41, i_42, i_43, i_44, i_45, i_46]))), (a_11, .inl (cy 1, 30, .inl g153)), (a_12, .inl (cy 1, 240, .inl g149))] H) (hD : va_D A [(a_0, .inr (12, [.int i_0, .ref a_1, .ref a_2, .ref a_3, .ref a_4, .ref a_5, .int i_1, .int n160, .int n161, .int n162, .int n163, .long n164, .int n165, .int n166, .int i_8, .int i_9, .ref a_6, .ref a_7, .ref a_8, .ref a_9, .ref a_10, .ref a_11, .ref a_12, .ref a_13, .ref a_14, .ref a_15, .ref a_16, .ref a_17, .ref a_18, .int i_10, .int i_11, .int i_12, .int i_13, .int i_14, .int i_15, .ref a_19, .int i_16, .ref a_20])), (a_5, .inl (cy 0, 600, .inl f_0)), (a_7, .inl (cy 1, 30, .inl (mm_g [i_17, i_18, i_19, i_20, i_21, i_22, i_23, i_24, i_25, i_26, i_27, i_28, i_29, i_30, i_31, i_32, i_33, i_34, i_35, i_36, i_37, i_38, i_39, i_40, i_41, i_42, i_43, i_44, i_45, i_46]))), (a_11, .inl (cy 1, 30, .inl g153)), (a_12, .inl (cy 1, 240, .inl g149))]) hS
            obtain ⟨w168, w169, w170, w171, w172, w173, w174, w175, w176, hw⟩ := hw
            replace w172 : (n162 : Int32).toInt ≤ (n160 : Int32).toInt := w172
            replace w173 : (n160 : Int32).toInt ≤ (i_1 : Int32).toInt := w173
            replace w174 : mm_tk n161 n162 n160 := w174
            replace w175 : (y21_0_9_118 : Int32).toInt ≤ (n162 : Int32).toInt := w175
            replace w176 : mm_b0 y21_0_12_121 n165 := w176
            obtain ⟨w177, w178, w179⟩ := hw
            replace w178 : (v167 : Int32).toInt ≤ (i_43 : Int32).toInt := w178
            replace w179 : mm_nv n165 v167 y21_0_8_117 y21_0_10_119 := w179
            refine lv_istore_n (lv' := [(2, .int v167), (1, .int v2), (0, .ref a_0)]) hx hb dX12_textLine_102 rfl hl (by decide) rfl ?_
            clear hl
            clear ls
            intro ls hl
            refine lv_goto (tgt := 21) hx hb dX12_textLine_103 (by decide) ?_
            exact ih21 v167 n160 n161 n162 n163 n164 n165 n166 g153 g149 w177 w168 w169 w170 w171 rg153 rg149 w172 w173 w174 (by have := w128; have := w175; omega) (mm_b7_u eg153 q158 (by decide)) (mm_fr_u w130 eg153 rv2 (by decide)) (mm_fr_u w131 eg149 rv148 (by decide)) (mm_txl_s w132 eg153 eg149 ev146 tv152 (by have := tv148; have := tv145; omega) w133 rx21_2_115 q159 rv2 (by decide)) w178 (mm_tmM hm21 q144 ev146 eg153 tv152 q159 (by decide)) H locs hP hD hS ls (lv_sub hl [0, 1, 2] rfl)
          · have q180 := mm_eqI (lo := 8) (hi := 8) c157 rv152 mm_k8 (by decide)
            have q181 : mm_rg v146 7 7 := mm_unadd tv152 q180 q147 (by decide) (by decide)
            refine lv_aload_n hx hb dX12_textLine_77 rfl (lv_at hl 2 rfl) ?_
            refine lv_aload_n hx hb dX12_textLine_78 rfl (lv_at hl 2 rfl) ?_
            refine va_get (D := G) (ci := 12) (v := .int y21_0_10_119) (C := RX12) (T := TX12) (N := 38) hx hb hts (mm_i inlX12) hown hK.1 hP 0 rfl rfl 10 (by decide) (mm_h hts mm_w456) (fun _ h9 => h9) rfl dX12_textLine_79 ?_
            refine lv_aload_n hx hb dX12_textLine_82 rfl (lv_at hl 2 rfl) ?_
            refine lv_iconst (v := 2) hx hb dX12_textLine_83 (by decide) ?_
            refine mm_finir (va_runV (As := [.int 2]) (rest := [.int y21_0_10_119, .ref a_0]) ⟨hx, hb, hml, hown, hts⟩ (M37_X12_hasRead l G cy H.size a_0 i_0 a_1 a_2 a_3 a_4 a_5 i_1 y21_0_7_116 y21_0_8_117 y21_0_9_118 y21_0_10_119 y21_0_11_120 y21_0_12_121 y21_0_13_122 i_8 i_9 a_6 a_7 a_8 a_9 a_10 a_11 a_12 a_13 a_14 a_15 a_16 a_17 a_18 i_10 i_11 i_12 i_13 i_14 i_15 a_19 i_16 a_20 i_17 i_18 i_19 i_20 i_21 i_22 i_23 i_24 i_25 i_26 i_27 i_28 i_29 i_30 i_31 i_32 i_33 i_34 i_35 i_36 i_37 i_38 i_39 i_40 i_41 i_42 i_43 i_44 i_45 i_46 h6 h7 h8 h9 h10 h11 h12 h13 h14 h15 h16 h17 h18 h19 h20 h21 h22 h23 h24 h25 h26 h27 h28 h29 h30 h31 h32 h33 (mm_wk h34 (by decide)) h35) (cwV 1 hts (mm_gV mm_w503 mm_w504 mm_w505 mm_w5 mm_w506) rfl rfl rfl hd_X12_hasRead ⟨by rw [hRf]; exact Nat.le_of_ble_eq_true rfl, by rw [hRl]; exact Nat.le_of_ble_eq_true rfl⟩) (mm_preV hK hZ hS hA hP hD [0, 2] rfl rfl 0 rfl rfl rfl) rfl rfl hl.1 rfl (lv_room (Nat.le_of_ble_eq_true rfl)) dX12_textLine_84 ⟨by rw [hRc]; exact Nat.le_of_ble_eq_true rfl, by rw [hRs]; exact Nat.le_of_ble_eq_true rfl⟩) hP hD hS hA [0, 2] rfl (fun _ => rfl) ?_
            clear hP hD hS
            clear H locs
            intro v182 _u H locs hw hP hD hS
            subst hw
            refine lv_icmp_gt (tgt := 94) hx hb dX12_textLine_87 (by decide) (fun c183 => ?_) (fun c183 => ?_)
            · have q184 := mm_ltR (lo := 1) (mm_lt c183) h32 (mm_top y21_0_10_119) (by decide)
              refine lv_iconst (v := 2) hx hb dX12_textLine_94 (by decide) ?_
              refine mm_finv (va_runV (As := [.int 2]) (rest := []) ⟨hx, hb, hml, hown, hts⟩ (M29_X12_fails l G cy H.size a_0 i_0 a_1 a_2 a_3 a_4 a_5 i_1 y21_0_7_116 y21_0_8_117 y21_0_9_118 y21_0_10_119 y21_0_11_120 y21_0_12_121 y21_0_13_122 i_8 i_9 a_6 a_7 a_8 a_9 a_10 a_11 a_12 a_13 a_14 a_15 a_16 a_17 a_18 i_10 i_11 i_12 i_13 i_14 i_15 a_19 i_16 a_20 ry21_0_9_118 (mm_wk q144 (by decide))) (cwV 1 hts (mm_gV mm_w483 mm_w484 mm_w485 mm_w5 mm_w486) rfl rfl rfl hd_X12_fails ⟨by rw [hRf]; exact Nat.le_of_ble_eq_true rfl, by rw [hRl]; exact Nat.le_of_ble_eq_true rfl⟩) (mm_preV hK hZ hS hA hP hD [0] rfl rfl 0 rfl rfl rfl) rfl rfl hl.1 rfl (lv_room (Nat.le_of_ble_eq_true rfl)) dX12_textLine_95 ⟨by rw [hRc]; exact Nat.le_of_ble_eq_true rfl, by rw [hRs]; exact Nat.le_of_ble_eq_true rfl⟩) hP hD hS hA (fun u : Int32 × Int32 => [(a_0, .inr (12, [.int i_0, .ref a_1, .ref a_2, .ref a_3, .ref a_4, .ref a_5, .int i_1, .int y21_0_7_116, .int y21_0_8_117, .int y21_0_9_118, .int y21_0_10_119, .long y21_0_11_120, .int u.1, .int u.2, .int i_8, .int i_9, .ref a_6, .ref a_7, .ref a_8, .ref a_9, .ref a_10, .ref a_11, .ref a_12, .ref a_13, .ref a_14, .ref a_15, .ref a_16, .ref a_17, .ref a_18, .int i_10, .int i_11, .int i_12, .int i_13, .int i_14, .int i_15, .ref a_19, .int i_16, .ref a_20])), (a_5, .inl (cy 0, 600, .inl f_0)), (a_7, .inl (cy 1, 30, .inl (mm_g [i_17, i_18, i_19, i_20, i_21, i_22, i_23, i_24, i_25, i_26, i_27, i_28, i_29, i_30, i_31, i_32, i_33, i_34, i_35, i_36, i_37, i_38, i_39, i_40, i_41, i_42, i_43, i_44, i_45, i_46]))), (a_11, .inl (cy 1, 30, .inl g153)), (a_12, .inl (cy 1, 240, .inl g149))]) [0] [1, 2, 3, 4] (n := 5) (fun _ => rfl) (by decide +kernel) (by decide +kernel) rfl (fun _ => rfl) (wr := [(a_5, .inl (cy 0, 600, .inl f_0)), (a_7, .inl (cy 1, 30, .inl (mm_g [i_17, i_18, i_19, i_20, i_21, i_22, i_23, i_24, i_25, i_26, i_27, i_28, i_29, i_30, i_31, i_32, i_33, i_34, i_35, i_36, i_37, i_38, i_39, i_40, i_41, i_42, i_43, i_44, i_45, i_46]))), (a_11, .inl (cy 1, 30, .inl g153)), (a_12, .inl (cy 1, 240, .inl g149))]) rfl (fun _ => rfl) (fun _ => rfl) ?_
              clear hP hD hS
              clear H locs
              intro u
              obtain ⟨n185, n186⟩ := u
              intro H locs hw (hP : va_P G vwCl [(a_0, .inr (12, [.int i_0, .ref a_1, .ref a_2, .ref a_3, .ref a_4, .ref a_5, .int i_1, .int y21_0_7_116, .int y21_0_8_117, .int y21_0_9_118, .int y21_0_10_119, .long y21_0_11_120, .int n185, .int n186, .int i_8, .int i_9, .ref a_6, .ref a_7, .ref a_8, .ref a_9, .ref a_10, .ref a_11, .ref a_12, .ref a_13, .ref a_14, .ref a_15, .ref a_16, .ref a_17, .ref a_18, .int i_10, .int i_11, .int i_12, .int i_13, .int i_14, .int i_15, .ref a_19, .int i_16, .ref a_20])), (a_5, .inl (cy 0, 600, .inl f_0)), (a_7, .inl (cy 1, 30, .inl (mm_g [i_17, i_18, i_19, i_20, i_21, i_22, i_23, i_24, i_25, i_26, i_27, i_28, i_29, i_30, i_31, i_32, i_33, i_34, i_35, i_36, i_37, i_38, i_39, i_40, i_41, i_42, i_43, i_44, i_45, i_46]))), (a_11, .inl (cy 1, 30, .inl g153)), (a_12, .inl (cy 1, 240, .inl g149))] H) (hD : va_D A [(a_0, .inr (12, [.int i_0, .ref a_1, .ref a_2, .ref a_3, .ref a_4, .ref a_5, .int i_1, .int y21_0_7_116, .int y21_0_8_117, .int y21_0_9_118, .int y21_0_10_119, .long y21_0_11_120, .int n185, .int n186, .int i_8, .int i_9, .ref a_6, .ref a_7, .ref a_8, .ref a_9, .ref a_10, .ref a_11, .ref a_12, .ref a_13, .ref a_14, .ref a_15, .ref a_16, .ref a_17, .ref a_18, .int i_10, .int i_11, .int i_12, .int i_13, .int i_14, .int i_15, .ref a_19, .int i_16, .ref a_20])), (a_5, .inl (cy 0, 600, .inl f_0)), (a_7, .inl (cy 1, 30, .inl (mm_g [i_17, i_18, i_19, i_20, i_21, i_22, i_23, i_24, i_25, i_26, i_27, i_28, i_29, i_30, i_31, i_32, i_33, i_34, i_35, i_36, i_37, i_38, i_39, i_40, i_41, i_42, i_43, i_44, i_45, i_46]))), (a_11, .inl (cy 1, 30, .inl g153)), (a_12, .inl (cy 1, 240, .inl g149))]) hS
              have w187 := hw
              refine lv_aload_n hx hb dX12_textLine_98 rfl (lv_at hl 2 rfl) ?_
              refine mm_finir (va_runV (As := []) (rest := []) ⟨hx, hb, hml, hown, hts⟩ (M52_X12_wordHere l G cy H.size a_0 i_0 a_1 a_2 a_3 a_4 a_5 i_1 y21_0_7_116 y21_0_8_117 y21_0_9_118 y21_0_10_119 y21_0_11_120 n185 n186 i_8 i_9 a_6 a_7 a_8 a_9 a_10 a_11 a_12 a_13 a_14 a_15 a_16 a_17 a_18 i_10 i_11 i_12 i_13 i_14 i_15 a_19 i_16 a_20 i_17 i_18 i_19 i_20 i_21 i_22 i_23 i_24 i_25 i_26 i_27 i_28 i_29 i_30 i_31 i_32 i_33 i_34 i_35 i_36 i_37 i_38 i_39 i_40 i_41 i_42 i_43 i_44 i_45 i_46 ry21_0_7_116 (mm_wk q155 (by decide)) ry21_0_9_118 w187 h6 h7 h8 h9 h10 h11 h12 h13 h14 h15 h16 h17 h18 h19 h20 h21 h22 h23 h24 h25 h26 h27 h28 h29 h30 h31 h32 h33 (mm_wk h34 (by decide)) h35 w125 w126 w127) (cwV 0 hts (mm_gV mm_w532 mm_w533 mm_w534 mm_w5 mm_w535) rfl rfl rfl hd_X12_wordHere ⟨by rw [hRf]; exact Nat.le_of_ble_eq_true rfl, by rw [hRl]; exact Nat.le_of_ble_eq_true rfl⟩) (mm_preV hK hZ hS hA hP hD [0, 2] rfl rfl 0 rfl rfl rfl) rfl rfl hl.1 rfl (lv_room (Nat.le_of_ble_eq_true rfl)) dX12_textLine_99 ⟨by rw [hRc]; exact Nat.le_of_ble_eq_true rfl, by rw [hRs]; exact Nat.le_of_ble_eq_true rfl⟩) hP hD hS hA [0, 2] rfl (fun _ => rfl) ?_
              clear hP hD hS
              clear H locs
              intro v188 _u H locs hw hP hD hS
              obtain ⟨rfl, w189, w190⟩ := hw
              refine lv_istore_n (lv' := [(2, .int 0), (1, .int v2), (0, .ref a_0)]) hx hb dX12_textLine_102 rfl hl (by decide) rfl ?_
              clear hl
              clear ls
              intro ls hl
              refine lv_goto (tgt := 21) hx hb dX12_textLine_103 (by decide) ?_
              exact ih21 0 y21_0_7_116 y21_0_8_117 y21_0_9_118 y21_0_10_119 y21_0_11_120 n185 n186 g153 g149 (mm_wk mm_k0 (by decide)) ry21_0_7_116 (mm_wk q155 (by decide)) ry21_0_9_118 (mm_wk w187 (by decide)) rg153 rg149 w125 w126 w127 w128 (mm_b7_n w187 (by decide)) (mm_fr_u w130 eg153 rv2 (by decide)) (mm_fr_u w131 eg149 rv148 (by decide)) (mm_txl_s w132 eg153 eg149 ev146 tv152 (by have := tv148; have := tv145; omega) w133 rx21_2_115 q181 rv2 (by decide)) w189 (mm_tmM hm21 q144 ev146 eg153 tv152 q181 (by decide)) H locs hP hD hS ls (lv_sub hl [0, 1, 2] rfl)
            · have q191 := mm_leL (mm_nlt c183) (mm_top y21_0_10_119) h32
              refine lv_iconst (v := 3) hx hb dX12_textLine_90 (by decide) ?_
              refine lv_goto (tgt := 95) hx hb dX12_textLine_91 (by decide) ?_
              refine mm_finv (va_runV (As := [.int 3]) (rest := []) ⟨hx, hb, hml, hown, hts⟩ (M45_X12_fails l G cy H.size a_0 i_0 a_1 a_2 a_3 a_4 a_5 i_1 y21_0_7_116 y21_0_8_117 y21_0_9_118 y21_0_10_119 y21_0_11_120 y21_0_12_121 y21_0_13_122 i_8 i_9 a_6 a_7 a_8 a_9 a_10 a_11 a_12 a_13 a_14 a_15 a_16 a_17 a_18 i_10 i_11 i_12 i_13 i_14 i_15 a_19 i_16 a_20 ry21_0_9_118 (mm_wk q144 (by decide))) (cwV 1 hts (mm_gV mm_w483 mm_w484 mm_w485 mm_w5 mm_w486) rfl rfl rfl hd_X12_fails ⟨by rw [hRf]; exact Nat.le_of_ble_eq_true rfl, by rw [hRl]; exact Nat.le_of_ble_eq_true rfl⟩) (mm_preV hK hZ hS hA hP hD [0] rfl rfl 0 rfl rfl rfl) rfl rfl hl.1 rfl (lv_room (Nat.le_of_ble_eq_true rfl)) dX12_textLine_95 ⟨by rw [hRc]; exact Nat.le_of_ble_eq_true rfl, by rw [hRs]; exact Nat.le_of_ble_eq_true rfl⟩) hP hD hS hA (fun u : Int32 × Int32 => [(a_0, .inr (12, [.int i_0, .ref a_1, .ref a_2, .ref a_3, .ref a_4, .ref a_5, .int i_1, .int y21_0_7_116, .int y21_0_8_117, .int y21_0_9_118, .int y21_0_10_119, .long y21_0_11_120, .int u.1, .int u.2, .int i_8, .int i_9, .ref a_6, .ref a_7, .ref a_8, .ref a_9, .ref a_10, .ref a_11, .ref a_12, .ref a_13, .ref a_14, .ref a_15, .ref a_16, .ref a_17, .ref a_18, .int i_10, .int i_11, .int i_12, .int i_13, .int i_14, .int i_15, .ref a_19, .int i_16, .ref a_20])), (a_5, .inl (cy 0, 600, .inl f_0)), (a_7, .inl (cy 1, 30, .inl (mm_g [i_17, i_18, i_19, i_20, i_21, i_22, i_23, i_24, i_25, i_26, i_27, i_28, i_29, i_30, i_31, i_32, i_33, i_34, i_35, i_36, i_37, i_38, i_39, i_40, i_41, i_42, i_43, i_44, i_45, i_46]))), (a_11, .inl (cy 1, 30, .inl g153)), (a_12, .inl (cy 1, 240, .inl g149))]) [0] [1, 2, 3, 4] (n := 5) (fun _ => rfl) (by decide +kernel) (by decide +kernel) rfl (fun _ => rfl) (wr := [(a_5, .inl (cy 0, 600, .inl f_0)), (a_7, .inl (cy 1, 30, .inl (mm_g [i_17, i_18, i_19, i_20, i_21, i_22, i_23, i_24, i_25, i_26, i_27, i_28, i_29, i_30, i_31, i_32, i_33, i_34, i_35, i_36, i_37, i_38, i_39, i_40, i_41, i_42, i_43, i_44, i_45, i_46]))), (a_11, .inl (cy 1, 30, .inl g153)), (a_12, .inl (cy 1, 240, .inl g149))]) rfl (fun _ => rfl) (fun _ => rfl) ?_
              clear hP hD hS
              clear H locs
              intro u
              obtain ⟨n192, n193⟩ := u
              intro H locs hw (hP : va_P G vwCl [(a_0, .inr (12, [.int i_0, .ref a_1, .ref a_2, .ref a_3, .ref a_4, .ref a_5, .int i_1, .int y21_0_7_116, .int y21_0_8_117, .int y21_0_9_118, .int y21_0_10_119, .long y21_0_11_120, .int n192, .int n193, .int i_8, .int i_9, .ref a_6, .ref a_7, .ref a_8, .ref a_9, .ref a_10, .ref a_11, .ref a_12, .ref a_13, .ref a_14, .ref a_15, .ref a_16, .ref a_17, .ref a_18, .int i_10, .int i_11, .int i_12, .int i_13, .int i_14, .int i_15, .ref a_19, .int i_16, .ref a_20])), (a_5, .inl (cy 0, 600, .inl f_0)), (a_7, .inl (cy 1, 30, .inl (mm_g [i_17, i_18, i_19, i_20, i_21, i_22, i_23, i_24, i_25, i_26, i_27, i_28, i_29, i_30, i_31, i_32, i_33, i_34, i_35, i_36, i_37, i_38, i_39, i_40, i_41, i_42, i_43, i_44, i_45, i_46]))), (a_11, .inl (cy 1, 30, .inl g153)), (a_12, .inl (cy 1, 240, .inl g149))] H) (hD : va_D A [(a_0, .inr (12, [.int i_0, .ref a_1, .ref a_2, .ref a_3, .ref a_4, .ref a_5, .int i_1, .int y21_0_7_116, .int y21_0_8_117, .int y21_0_9_118, .int y21_0_10_119, .long y21_0_11_120, .int n192, .int n193, .int i_8, .int i_9, .ref a_6, .ref a_7, .ref a_8, .ref a_9, .ref a_10, .ref a_11, .ref a_12, .ref a_13, .ref a_14, .ref a_15, .ref a_16, .ref a_17, .ref a_18, .int i_10, .int i_11, .int i_12, .int i_13, .int i_14, .int i_15, .ref a_19, .int i_16, .ref a_20])), (a_5, .inl (cy 0, 600, .inl f_0)), (a_7, .inl (cy 1, 30, .inl (mm_g [i_17, i_18, i_19, i_20, i_21, i_22, i_23, i_24, i_25, i_26, i_27, i_28, i_29, i_30, i_31, i_32, i_33, i_34, i_35, i_36, i_37, i_38, i_39, i_40, i_41, i_42, i_43, i_44, i_45, i_46]))), (a_11, .inl (cy 1, 30, .inl g153)), (a_12, .inl (cy 1, 240, .inl g149))]) hS
              have w194 := hw
              refine lv_aload_n hx hb dX12_textLine_98 rfl (lv_at hl 2 rfl) ?_
              refine mm_finir (va_runV (As := []) (rest := []) ⟨hx, hb, hml, hown, hts⟩ (M52_X12_wordHere l G cy H.size a_0 i_0 a_1 a_2 a_3 a_4 a_5 i_1 y21_0_7_116 y21_0_8_117 y21_0_9_118 y21_0_10_119 y21_0_11_120 n192 n193 i_8 i_9 a_6 a_7 a_8 a_9 a_10 a_11 a_12 a_13 a_14 a_15 a_16 a_17 a_18 i_10 i_11 i_12 i_13 i_14 i_15 a_19 i_16 a_20 i_17 i_18 i_19 i_20 i_21 i_22 i_23 i_24 i_25 i_26 i_27 i_28 i_29 i_30 i_31 i_32 i_33 i_34 i_35 i_36 i_37 i_38 i_39 i_40 i_41 i_42 i_43 i_44 i_45 i_46 ry21_0_7_116 (mm_wk q155 (by decide)) ry21_0_9_118 w194 h6 h7 h8 h9 h10 h11 h12 h13 h14 h15 h16 h17 h18 h19 h20 h21 h22 h23 h24 h25 h26 h27 h28 h29 h30 h31 h32 h33 (mm_wk h34 (by decide)) h35 w125 w126 w127) (cwV 0 hts (mm_gV mm_w532 mm_w533 mm_w534 mm_w5 mm_w535) rfl rfl rfl hd_X12_wordHere ⟨by rw [hRf]; exact Nat.le_of_ble_eq_true rfl, by rw [hRl]; exact Nat.le_of_ble_eq_true rfl⟩) (mm_preV hK hZ hS hA hP hD [0, 2] rfl rfl 0 rfl rfl rfl) rfl rfl hl.1 rfl (lv_room (Nat.le_of_ble_eq_true rfl)) dX12_textLine_99 ⟨by rw [hRc]; exact Nat.le_of_ble_eq_true rfl, by rw [hRs]; exact Nat.le_of_ble_eq_true rfl⟩) hP hD hS hA [0, 2] rfl (fun _ => rfl) ?_
              clear hP hD hS
              clear H locs
              intro v195 _u H locs hw hP hD hS
              obtain ⟨rfl, w196, w197⟩ := hw
              refine lv_istore_n (lv' := [(2, .int 0), (1, .int v2), (0, .ref a_0)]) hx hb dX12_textLine_102 rfl hl (by decide) rfl ?_
              clear hl
              clear ls
              intro ls hl
              refine lv_goto (tgt := 21) hx hb dX12_textLine_103 (by decide) ?_
              exact ih21 0 y21_0_7_116 y21_0_8_117 y21_0_9_118 y21_0_10_119 y21_0_11_120 n192 n193 g153 g149 (mm_wk mm_k0 (by decide)) ry21_0_7_116 (mm_wk q155 (by decide)) ry21_0_9_118 (mm_wk w194 (by decide)) rg153 rg149 w125 w126 w127 w128 (mm_b7_n w194 (by decide)) (mm_fr_u w130 eg153 rv2 (by decide)) (mm_fr_u w131 eg149 rv148 (by decide)) (mm_txl_s w132 eg153 eg149 ev146 tv152 (by have := tv148; have := tv145; omega) w133 rx21_2_115 q181 rv2 (by decide)) w196 (mm_tmM hm21 q144 ev146 eg153 tv152 q181 (by decide)) H locs hP hD hS ls (lv_sub hl [0, 1, 2] rfl)
        · refine lv_goto (tgt := 106) hx hb dX12_textLine_63 (by decide) ?_
          refine lv_aload_n hx hb dX12_textLine_106 rfl (lv_at hl 2 rfl) ?_
          refine lv_iconst (v := 4) hx hb dX12_textLine_107 (by decide) ?_
          refine lv_aload_n hx hb dX12_textLine_108 rfl (lv_at hl 2 rfl) ?_
          refine lv_iconst (v := 4) hx hb dX12_textLine_109 (by decide) ?_
          refine mm_finir (va_runV (As := [.int 4]) (rest := [.int 4, .ref a_0]) ⟨hx, hb, hml, hown, hts⟩ (M43_X12_hasRead l G cy H.size a_0 i_0 a_1 a_2 a_3 a_4 a_5 i_1 y21_0_7_116 y21_0_8_117 y21_0_9_118 y21_0_10_119 y21_0_11_120 y21_0_12_121 y21_0_13_122 i_8 i_9 a_6 a_7 a_8 a_9 a_10 a_11 a_12 a_13 a_14 a_15 a_16 a_17 a_18 i_10 i_11 i_12 i_13 i_14 i_15 a_19 i_16 a_20 i_17 i_18 i_19 i_20 i_21 i_22 i_23 i_24 i_25 i_26 i_27 i_28 i_29 i_30 i_31 i_32 i_33 i_34 i_35 i_36 i_37 i_38 i_39 i_40 i_41 i_42 i_43 i_44 i_45 i_46 h6 h7 h8 h9 h10 h11 h12 h13 h14 h15 h16 h17 h18 h19 h20 h21 h22 h23 h24 h25 h26 h27 h28 h29 h30 h31 h32 h33 (mm_wk h34 (by decide)) h35) (cwV 1 hts (mm_gV mm_w503 mm_w504 mm_w505 mm_w5 mm_w506) rfl rfl rfl hd_X12_hasRead ⟨by rw [hRf]; exact Nat.le_of_ble_eq_true rfl, by rw [hRl]; exact Nat.le_of_ble_eq_true rfl⟩) (mm_preV hK hZ hS hA hP hD [0, 2] rfl rfl 0 rfl rfl rfl) rfl rfl hl.1 rfl (lv_room (Nat.le_of_ble_eq_true rfl)) dX12_textLine_110 ⟨by rw [hRc]; exact Nat.le_of_ble_eq_true rfl, by rw [hRs]; exact Nat.le_of_ble_eq_true rfl⟩) hP hD hS hA [0, 2] rfl (fun _ => rfl) ?_
          clear hP hD hS
          clear H locs
          intro v198 _u H locs hw hP hD hS
          subst hw
          refine lv_iconst (v := 1) hx hb dX12_textLine_113 (by decide) ?_
          refine lv_iadd hx hb dX12_textLine_114 ?_
          refine lv_topi (fun v199 ev199 => ?_)
          have rv199 : mm_rg v199 1 1 := mm_add ev199 h34 mm_k1 (by decide) (by decide)
          have tv199 := mm_addEc ev199 h34 mm_k1 (by decide) (k := 1) (by decide)
          refine mm_finv (va_runV (As := [.int 4, .int v199]) (rest := []) ⟨hx, hb, hml, hown, hts⟩ (M75_X12_tells l G cy H.size a_0 v199 i_0 a_1 a_2 a_3 a_4 a_5 i_1 y21_0_7_116 y21_0_8_117 y21_0_9_118 y21_0_10_119 y21_0_11_120 y21_0_12_121 y21_0_13_122 i_8 i_9 a_6 a_7 a_8 a_9 a_10 a_11 a_12 a_13 a_14 a_15 a_16 a_17 a_18 i_10 i_11 i_12 i_13 i_14 i_15 a_19 i_16 a_20 i_17 i_18 i_19 i_20 i_21 i_22 i_23 i_24 i_25 i_26 i_27 i_28 i_29 i_30 i_31 i_32 i_33 i_34 i_35 i_36 i_37 i_38 i_39 i_40 i_41 i_42 i_43 i_44 i_45 i_46 rv199 h6 h7 h8 h9 h10 h11 h12 h13 h14 h15 h16 h17 h18 h19 h20 h21 h22 h23 h24 h25 h26 h27 h28 h29 h30 h31 h32 h33 (mm_wk h34 (by decide)) h35) (cwV 2 hts (mm_gV mm_w441 mm_w442 mm_w443 mm_w5 mm_w444) rfl rfl rfl hd_X12_tells ⟨by rw [hRf]; exact Nat.le_of_ble_eq_true rfl, by rw [hRl]; exact Nat.le_of_ble_eq_true rfl⟩) (mm_preV hK hZ hS hA hP hD [0, 2] rfl rfl 0 rfl rfl rfl) rfl rfl hl.1 rfl (lv_room (Nat.le_of_ble_eq_true rfl)) dX12_textLine_115 ⟨by rw [hRc]; exact Nat.le_of_ble_eq_true rfl, by rw [hRs]; exact Nat.le_of_ble_eq_true rfl⟩) hP hD hS hA (fun u : Unit => [(a_0, .inr (12, [.int i_0, .ref a_1, .ref a_2, .ref a_3, .ref a_4, .ref a_5, .int i_1, .int y21_0_7_116, .int y21_0_8_117, .int y21_0_9_118, .int y21_0_10_119, .long y21_0_11_120, .int y21_0_12_121, .int y21_0_13_122, .int i_8, .int i_9, .ref a_6, .ref a_7, .ref a_8, .ref a_9, .ref a_10, .ref a_11, .ref a_12, .ref a_13, .ref a_14, .ref a_15, .ref a_16, .ref a_17, .ref a_18, .int i_10, .int i_11, .int i_12, .int i_13, .int i_14, .int i_15, .ref a_19, .int i_16, .ref a_20])), (a_5, .inl (cy 0, 600, .inl f_0)), (a_7, .inl (cy 1, 30, .inl (mm_g [i_17, i_18, i_19, i_20, i_21, i_22, i_23, i_24, i_25, i_26, i_27, i_28, i_29, i_30, i_31, i_32, i_33, i_34, i_35, i_36, i_37, i_38, i_39, i_40, i_41, i_42, i_43, i_44, v199, i_46]))), (a_11, .inl (cy 1, 30, .inl g153)), (a_12, .inl (cy 1, 240, .inl g149))]) [0, 2] [1, 3, 4] (n := 5) (fun _ => rfl) (by decide +kernel) (by decide +kernel) rfl (fun _ => rfl) (wr := [(a_5, .inl (cy 0, 600, .inl f_0)), (a_11, .inl (cy 1, 30, .inl g153)), (a_12, .inl (cy 1, 240, .inl g149))]) rfl (fun _ => rfl) (fun _ => @rfl _ ([a_0, a_7] : List Nat)) ?_
          clear hP hD hS
          clear H locs
          intro _u H locs hw (hP : va_P G vwCl [(a_0, .inr (12, [.int i_0, .ref a_1, .ref a_2, .ref a_3, .ref a_4, .ref a_5, .int i_1, .int y21_0_7_116, .int y21_0_8_117, .int y21_0_9_118, .int y21_0_10_119, .long y21_0_11_120, .int y21_0_12_121, .int y21_0_13_122, .int i_8, .int i_9, .ref a_6, .ref a_7, .ref a_8, .ref a_9, .ref a_10, .ref a_11, .ref a_12, .ref a_13, .ref a_14, .ref a_15, .ref a_16, .ref a_17, .ref a_18, .int i_10, .int i_11, .int i_12, .int i_13, .int i_14, .int i_15, .ref a_19, .int i_16, .ref a_20])), (a_5, .inl (cy 0, 600, .inl f_0)), (a_7, .inl (cy 1, 30, .inl (mm_g [i_17, i_18, i_19, i_20, i_21, i_22, i_23, i_24, i_25, i_26, i_27, i_28, i_29, i_30, i_31, i_32, i_33, i_34, i_35, i_36, i_37, i_38, i_39, i_40, i_41, i_42, i_43, i_44, v199, i_46]))), (a_11, .inl (cy 1, 30, .inl g153)), (a_12, .inl (cy 1, 240, .inl g149))] H) (hD : va_D A [(a_0, .inr (12, [.int i_0, .ref a_1, .ref a_2, .ref a_3, .ref a_4, .ref a_5, .int i_1, .int y21_0_7_116, .int y21_0_8_117, .int y21_0_9_118, .int y21_0_10_119, .long y21_0_11_120, .int y21_0_12_121, .int y21_0_13_122, .int i_8, .int i_9, .ref a_6, .ref a_7, .ref a_8, .ref a_9, .ref a_10, .ref a_11, .ref a_12, .ref a_13, .ref a_14, .ref a_15, .ref a_16, .ref a_17, .ref a_18, .int i_10, .int i_11, .int i_12, .int i_13, .int i_14, .int i_15, .ref a_19, .int i_16, .ref a_20])), (a_5, .inl (cy 0, 600, .inl f_0)), (a_7, .inl (cy 1, 30, .inl (mm_g [i_17, i_18, i_19, i_20, i_21, i_22, i_23, i_24, i_25, i_26, i_27, i_28, i_29, i_30, i_31, i_32, i_33, i_34, i_35, i_36, i_37, i_38, i_39, i_40, i_41, i_42, i_43, i_44, v199, i_46]))), (a_11, .inl (cy 1, 30, .inl g153)), (a_12, .inl (cy 1, 240, .inl g149))]) hS
          have w200 : mm_txs g153 g149 0 i_19 i_21 := (mm_txs_fr h38 (mm_fr_u w130 eg153 rv2 (by decide)) (mm_fr_u w131 eg149 rv148 (by decide)) (by decide))
          have w201 : mm_txs g153 g149 1 i_25 i_27 := (mm_txs_fr h39 (mm_fr_u w130 eg153 rv2 (by decide)) (mm_fr_u w131 eg149 rv148 (by decide)) (by decide))
          have w202 : mm_txs g153 g149 2 i_31 i_33 := (mm_txs_fr h40 (mm_fr_u w130 eg153 rv2 (by decide)) (mm_fr_u w131 eg149 rv148 (by decide)) (by decide))
          have w203 : mm_txs g153 g149 3 i_37 i_39 := (mm_txs_fr h41 (mm_fr_u w130 eg153 rv2 (by decide)) (mm_fr_u w131 eg149 rv148 (by decide)) (by decide))
          have w204 : mm_txs g153 g149 4 i_43 v199 := (mm_txs_t h45 (mm_txl_s w132 eg153 eg149 ev146 tv152 (by have := tv148; have := tv145; omega) w133 rx21_2_115 q147 rv2 (by decide)) (by have := tv2; omega) (by have := tv199; omega) h34 (by decide))
          have w205 : mm_fr f_1 g153 24 := (mm_fr_u w130 eg153 rv2 (by decide))
          have w206 : mm_fr f_2 g149 192 := (mm_fr_u w131 eg149 rv148 (by decide))
          subst hAe
          rw [hQ]
          exact W.vret hx hb hr (fun t ht hW => ⟨⟨(y21_0_7_116, y21_0_8_117, y21_0_9_118, y21_0_10_119, y21_0_11_120, y21_0_12_121, y21_0_13_122, v199, g153, g149), rfl, ⟨ry21_0_7_116, ry21_0_8_117, ry21_0_9_118, (mm_wk q144 (by decide)), rv199, rg153, rg149, w200, w201, w202, w203, w125, w126, w127, w128, w204, w205, w206⟩, by rw [ht]; exact hP, hK.warm hW, hD⟩, hS.F ht⟩) hS.2.2 dX12_textLine_118
  exact L21_133 _ v11 n4 n5 n6 n7 n8 n9 n10 g3 f_2 w21 w12 w13 w14 w15 rg3 h37 w16 w17 w18 w19 (mm_b7_u eg3 mm_k0 (by decide)) (mm_fr_u (mm_fr_r _ _) eg3 rv2 (by decide)) (mm_fr_r _ _) (mm_txl_0 eg3) w22 (Nat.lt_succ_self _) H locs hP hD hS ls (lv_sub hl [0, 1, 2] rfl)

