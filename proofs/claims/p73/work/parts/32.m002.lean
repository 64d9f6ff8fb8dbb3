theorem dX12_ruleLine_0 : decode cX12_ruleLine 0 = .ok (.bipush 12, 2) := by decide +kernel
theorem dX12_ruleLine_2 : decode cX12_ruleLine 2 = .ok (.aload_n 0, 1) := by decide +kernel
theorem dX12_ruleLine_3 : decode cX12_ruleLine 3 = .ok (.iconst 3, 1) := by decide +kernel
theorem dX12_ruleLine_4 : decode cX12_ruleLine 4 = .ok (.invokevirtual 159, 3) := by decide +kernel
theorem dX12_ruleLine_7 : decode cX12_ruleLine 7 = .ok (.iadd, 1) := by decide +kernel
theorem dX12_ruleLine_8 : decode cX12_ruleLine 8 = .ok (.iconst 1, 1) := by decide +kernel
theorem dX12_ruleLine_9 : decode cX12_ruleLine 9 = .ok (.isub, 1) := by decide +kernel
theorem dX12_ruleLine_10 : decode cX12_ruleLine 10 = .ok (.istore_n 1, 1) := by decide +kernel
theorem dX12_ruleLine_11 : decode cX12_ruleLine 11 = .ok (.bipush 10, 2) := by decide +kernel
theorem dX12_ruleLine_13 : decode cX12_ruleLine 13 = .ok (.bipush 7, 2) := by decide +kernel
theorem dX12_ruleLine_15 : decode cX12_ruleLine 15 = .ok (.iload_n 1, 1) := by decide +kernel
theorem dX12_ruleLine_16 : decode cX12_ruleLine 16 = .ok (.imul, 1) := by decide +kernel
theorem dX12_ruleLine_17 : decode cX12_ruleLine 17 = .ok (.aload_n 0, 1) := by decide +kernel
theorem dX12_ruleLine_18 : decode cX12_ruleLine 18 = .ok (.getfield 40, 3) := by decide +kernel
theorem dX12_ruleLine_21 : decode cX12_ruleLine 21 = .ok (.iload_n 1, 1) := by decide +kernel
theorem dX12_ruleLine_22 : decode cX12_ruleLine 22 = .ok (.iaload, 1) := by decide +kernel
theorem dX12_ruleLine_23 : decode cX12_ruleLine 23 = .ok (.iadd, 1) := by decide +kernel
theorem dX12_ruleLine_24 : decode cX12_ruleLine 24 = .ok (.imul, 1) := by decide +kernel
theorem dX12_ruleLine_25 : decode cX12_ruleLine 25 = .ok (.istore_n 2, 1) := by decide +kernel
theorem dX12_ruleLine_26 : decode cX12_ruleLine 26 = .ok (.aload_n 0, 1) := by decide +kernel
theorem dX12_ruleLine_27 : decode cX12_ruleLine 27 = .ok (.iconst 2, 1) := by decide +kernel
theorem dX12_ruleLine_28 : decode cX12_ruleLine 28 = .ok (.invokevirtual 159, 3) := by decide +kernel
theorem dX12_ruleLine_31 : decode cX12_ruleLine 31 = .ok (.iconst 1, 1) := by decide +kernel
theorem dX12_ruleLine_32 : decode cX12_ruleLine 32 = .ok (.iadd, 1) := by decide +kernel
theorem dX12_ruleLine_33 : decode cX12_ruleLine 33 = .ok (.istore_n 3, 1) := by decide +kernel
theorem dX12_ruleLine_34 : decode cX12_ruleLine 34 = .ok (.iconst 0, 1) := by decide +kernel
theorem dX12_ruleLine_35 : decode cX12_ruleLine 35 = .ok (.istore 4, 2) := by decide +kernel
theorem dX12_ruleLine_37 : decode cX12_ruleLine 37 = .ok (.iload 4, 2) := by decide +kernel
theorem dX12_ruleLine_39 : decode cX12_ruleLine 39 = .ok (.bipush 10, 2) := by decide +kernel
theorem dX12_ruleLine_41 : decode cX12_ruleLine 41 = .ok (.if_icmp .ge 20, 3) := by decide +kernel
theorem dX12_ruleLine_44 : decode cX12_ruleLine 44 = .ok (.aload_n 0, 1) := by decide +kernel
theorem dX12_ruleLine_45 : decode cX12_ruleLine 45 = .ok (.getfield 43, 3) := by decide +kernel
theorem dX12_ruleLine_48 : decode cX12_ruleLine 48 = .ok (.iload_n 2, 1) := by decide +kernel
theorem dX12_ruleLine_49 : decode cX12_ruleLine 49 = .ok (.iload 4, 2) := by decide +kernel
theorem dX12_ruleLine_51 : decode cX12_ruleLine 51 = .ok (.iadd, 1) := by decide +kernel
theorem dX12_ruleLine_52 : decode cX12_ruleLine 52 = .ok (.iload 4, 2) := by decide +kernel
theorem dX12_ruleLine_54 : decode cX12_ruleLine 54 = .ok (.iastore, 1) := by decide +kernel
theorem dX12_ruleLine_55 : decode cX12_ruleLine 55 = .ok (.iinc 4 1, 3) := by decide +kernel
theorem dX12_ruleLine_58 : decode cX12_ruleLine 58 = .ok (.goto (-21), 3) := by decide +kernel
theorem dX12_ruleLine_61 : decode cX12_ruleLine 61 = .ok (.aload_n 0, 1) := by decide +kernel
theorem dX12_ruleLine_62 : decode cX12_ruleLine 62 = .ok (.ldc2_w 181, 3) := by decide +kernel
theorem dX12_ruleLine_65 : decode cX12_ruleLine 65 = .ok (.invokevirtual 135, 3) := by decide +kernel
theorem dX12_ruleLine_68 : decode cX12_ruleLine 68 = .ok (.ifCond .eq 50, 3) := by decide +kernel
theorem dX12_ruleLine_71 : decode cX12_ruleLine 71 = .ok (.aload_n 0, 1) := by decide +kernel
theorem dX12_ruleLine_72 : decode cX12_ruleLine 72 = .ok (.invokevirtual 139, 3) := by decide +kernel
theorem dX12_ruleLine_75 : decode cX12_ruleLine 75 = .ok (.aload_n 0, 1) := by decide +kernel
theorem dX12_ruleLine_76 : decode cX12_ruleLine 76 = .ok (.iconst 1, 1) := by decide +kernel
theorem dX12_ruleLine_77 : decode cX12_ruleLine 77 = .ok (.bipush 9, 2) := by decide +kernel
theorem dX12_ruleLine_79 : decode cX12_ruleLine 79 = .ok (.invokevirtual 152, 3) := by decide +kernel
theorem dX12_ruleLine_82 : decode cX12_ruleLine 82 = .ok (.istore 4, 2) := by decide +kernel
theorem dX12_ruleLine_84 : decode cX12_ruleLine 84 = .ok (.iconst 0, 1) := by decide +kernel
theorem dX12_ruleLine_85 : decode cX12_ruleLine 85 = .ok (.istore 5, 2) := by decide +kernel
theorem dX12_ruleLine_87 : decode cX12_ruleLine 87 = .ok (.iload 5, 2) := by decide +kernel
theorem dX12_ruleLine_89 : decode cX12_ruleLine 89 = .ok (.iload_n 3, 1) := by decide +kernel
theorem dX12_ruleLine_90 : decode cX12_ruleLine 90 = .ok (.if_icmp .ge 25, 3) := by decide +kernel
theorem dX12_ruleLine_93 : decode cX12_ruleLine 93 = .ok (.aload_n 0, 1) := by decide +kernel
theorem dX12_ruleLine_94 : decode cX12_ruleLine 94 = .ok (.getfield 43, 3) := by decide +kernel
theorem dX12_ruleLine_97 : decode cX12_ruleLine 97 = .ok (.iload_n 2, 1) := by decide +kernel
theorem dX12_ruleLine_98 : decode cX12_ruleLine 98 = .ok (.iload 5, 2) := by decide +kernel
theorem dX12_ruleLine_100 : decode cX12_ruleLine 100 = .ok (.iadd, 1) := by decide +kernel
theorem dX12_ruleLine_101 : decode cX12_ruleLine 101 = .ok (.iload 5, 2) := by decide +kernel
theorem dX12_ruleLine_103 : decode cX12_ruleLine 103 = .ok (.iload 4, 2) := by decide +kernel
theorem dX12_ruleLine_105 : decode cX12_ruleLine 105 = .ok (.iadd, 1) := by decide +kernel
theorem dX12_ruleLine_106 : decode cX12_ruleLine 106 = .ok (.iload_n 3, 1) := by decide +kernel
theorem dX12_ruleLine_107 : decode cX12_ruleLine 107 = .ok (.irem, 1) := by decide +kernel
theorem dX12_ruleLine_108 : decode cX12_ruleLine 108 = .ok (.iastore, 1) := by decide +kernel
theorem dX12_ruleLine_109 : decode cX12_ruleLine 109 = .ok (.iinc 5 1, 3) := by decide +kernel
theorem dX12_ruleLine_112 : decode cX12_ruleLine 112 = .ok (.goto (-25), 3) := by decide +kernel
theorem dX12_ruleLine_115 : decode cX12_ruleLine 115 = .ok (.goto 128, 3) := by decide +kernel
theorem dX12_ruleLine_118 : decode cX12_ruleLine 118 = .ok (.aload_n 0, 1) := by decide +kernel
theorem dX12_ruleLine_119 : decode cX12_ruleLine 119 = .ok (.ldc2_w 183, 3) := by decide +kernel
theorem dX12_ruleLine_122 : decode cX12_ruleLine 122 = .ok (.invokevirtual 135, 3) := by decide +kernel
theorem dX12_ruleLine_125 : decode cX12_ruleLine 125 = .ok (.ifCond .ne 13, 3) := by decide +kernel
theorem dX12_ruleLine_128 : decode cX12_ruleLine 128 = .ok (.aload_n 0, 1) := by decide +kernel
theorem dX12_ruleLine_129 : decode cX12_ruleLine 129 = .ok (.ldc2_w 185, 3) := by decide +kernel
theorem dX12_ruleLine_132 : decode cX12_ruleLine 132 = .ok (.invokevirtual 135, 3) := by decide +kernel
theorem dX12_ruleLine_135 : decode cX12_ruleLine 135 = .ok (.ifCond .eq 101, 3) := by decide +kernel
theorem dX12_ruleLine_138 : decode cX12_ruleLine 138 = .ok (.aload_n 0, 1) := by decide +kernel
theorem dX12_ruleLine_139 : decode cX12_ruleLine 139 = .ok (.ldc2_w 185, 3) := by decide +kernel
theorem dX12_ruleLine_142 : decode cX12_ruleLine 142 = .ok (.invokevirtual 135, 3) := by decide +kernel
theorem dX12_ruleLine_145 : decode cX12_ruleLine 145 = .ok (.istore 4, 2) := by decide +kernel
theorem dX12_ruleLine_147 : decode cX12_ruleLine 147 = .ok (.aload_n 0, 1) := by decide +kernel
theorem dX12_ruleLine_148 : decode cX12_ruleLine 148 = .ok (.invokevirtual 139, 3) := by decide +kernel
theorem dX12_ruleLine_151 : decode cX12_ruleLine 151 = .ok (.aload_n 0, 1) := by decide +kernel
theorem dX12_ruleLine_152 : decode cX12_ruleLine 152 = .ok (.invokevirtual 177, 3) := by decide +kernel
theorem dX12_ruleLine_155 : decode cX12_ruleLine 155 = .ok (.istore 5, 2) := by decide +kernel
theorem dX12_ruleLine_157 : decode cX12_ruleLine 157 = .ok (.aload_n 0, 1) := by decide +kernel
theorem dX12_ruleLine_158 : decode cX12_ruleLine 158 = .ok (.iload 5, 2) := by decide +kernel
theorem dX12_ruleLine_160 : decode cX12_ruleLine 160 = .ok (.iload 5, 2) := by decide +kernel
theorem dX12_ruleLine_162 : decode cX12_ruleLine 162 = .ok (.invokevirtual 187, 3) := by decide +kernel
theorem dX12_ruleLine_165 : decode cX12_ruleLine 165 = .ok (.istore 6, 2) := by decide +kernel
theorem dX12_ruleLine_167 : decode cX12_ruleLine 167 = .ok (.iload 4, 2) := by decide +kernel
theorem dX12_ruleLine_169 : decode cX12_ruleLine 169 = .ok (.ifCond .eq 14, 3) := by decide +kernel
theorem dX12_ruleLine_172 : decode cX12_ruleLine 172 = .ok (.aload_n 0, 1) := by decide +kernel
theorem dX12_ruleLine_173 : decode cX12_ruleLine 173 = .ok (.iload 5, 2) := by decide +kernel
theorem dX12_ruleLine_175 : decode cX12_ruleLine 175 = .ok (.iload 6, 2) := by decide +kernel
theorem dX12_ruleLine_177 : decode cX12_ruleLine 177 = .ok (.invokevirtual 187, 3) := by decide +kernel
theorem dX12_ruleLine_180 : decode cX12_ruleLine 180 = .ok (.goto 5, 3) := by decide +kernel
theorem dX12_ruleLine_183 : decode cX12_ruleLine 183 = .ok (.iload 5, 2) := by decide +kernel
theorem dX12_ruleLine_185 : decode cX12_ruleLine 185 = .ok (.istore 7, 2) := by decide +kernel
theorem dX12_ruleLine_187 : decode cX12_ruleLine 187 = .ok (.aload_n 0, 1) := by decide +kernel
theorem dX12_ruleLine_188 : decode cX12_ruleLine 188 = .ok (.getfield 129, 3) := by decide +kernel
theorem dX12_ruleLine_191 : decode cX12_ruleLine 191 = .ok (.ifCond .eq 4, 3) := by decide +kernel
theorem dX12_ruleLine_194 : decode cX12_ruleLine 194 = .ok (.return_, 1) := by decide +kernel
theorem dX12_ruleLine_195 : decode cX12_ruleLine 195 = .ok (.aload_n 0, 1) := by decide +kernel
theorem dX12_ruleLine_196 : decode cX12_ruleLine 196 = .ok (.getfield 43, 3) := by decide +kernel
theorem dX12_ruleLine_199 : decode cX12_ruleLine 199 = .ok (.iload_n 2, 1) := by decide +kernel
theorem dX12_ruleLine_200 : decode cX12_ruleLine 200 = .ok (.iload 5, 2) := by decide +kernel
theorem dX12_ruleLine_202 : decode cX12_ruleLine 202 = .ok (.iadd, 1) := by decide +kernel
theorem dX12_ruleLine_203 : decode cX12_ruleLine 203 = .ok (.iload 6, 2) := by decide +kernel
theorem dX12_ruleLine_205 : decode cX12_ruleLine 205 = .ok (.iastore, 1) := by decide +kernel
theorem dX12_ruleLine_206 : decode cX12_ruleLine 206 = .ok (.aload_n 0, 1) := by decide +kernel
theorem dX12_ruleLine_207 : decode cX12_ruleLine 207 = .ok (.getfield 43, 3) := by decide +kernel
theorem dX12_ruleLine_210 : decode cX12_ruleLine 210 = .ok (.iload_n 2, 1) := by decide +kernel
theorem dX12_ruleLine_211 : decode cX12_ruleLine 211 = .ok (.iload 6, 2) := by decide +kernel
theorem dX12_ruleLine_213 : decode cX12_ruleLine 213 = .ok (.iadd, 1) := by decide +kernel
theorem dX12_ruleLine_214 : decode cX12_ruleLine 214 = .ok (.iload 7, 2) := by decide +kernel
theorem dX12_ruleLine_216 : decode cX12_ruleLine 216 = .ok (.iastore, 1) := by decide +kernel
theorem dX12_ruleLine_217 : decode cX12_ruleLine 217 = .ok (.iload 4, 2) := by decide +kernel
theorem dX12_ruleLine_219 : decode cX12_ruleLine 219 = .ok (.ifCond .eq 14, 3) := by decide +kernel
theorem dX12_ruleLine_222 : decode cX12_ruleLine 222 = .ok (.aload_n 0, 1) := by decide +kernel
theorem dX12_ruleLine_223 : decode cX12_ruleLine 223 = .ok (.getfield 43, 3) := by decide +kernel
theorem dX12_ruleLine_226 : decode cX12_ruleLine 226 = .ok (.iload_n 2, 1) := by decide +kernel
theorem dX12_ruleLine_227 : decode cX12_ruleLine 227 = .ok (.iload 7, 2) := by decide +kernel
theorem dX12_ruleLine_229 : decode cX12_ruleLine 229 = .ok (.iadd, 1) := by decide +kernel
theorem dX12_ruleLine_230 : decode cX12_ruleLine 230 = .ok (.iload 5, 2) := by decide +kernel
theorem dX12_ruleLine_232 : decode cX12_ruleLine 232 = .ok (.iastore, 1) := by decide +kernel
theorem dX12_ruleLine_233 : decode cX12_ruleLine 233 = .ok (.goto 10, 3) := by decide +kernel
theorem dX12_ruleLine_236 : decode cX12_ruleLine 236 = .ok (.aload_n 0, 1) := by decide +kernel
theorem dX12_ruleLine_237 : decode cX12_ruleLine 237 = .ok (.ldc2_w 190, 3) := by decide +kernel
theorem dX12_ruleLine_240 : decode cX12_ruleLine 240 = .ok (.invokevirtual 148, 3) := by decide +kernel
theorem dX12_ruleLine_243 : decode cX12_ruleLine 243 = .ok (.aload_n 0, 1) := by decide +kernel
theorem dX12_ruleLine_244 : decode cX12_ruleLine 244 = .ok (.getfield 40, 3) := by decide +kernel
theorem dX12_ruleLine_247 : decode cX12_ruleLine 247 = .ok (.iload_n 1, 1) := by decide +kernel
theorem dX12_ruleLine_248 : decode cX12_ruleLine 248 = .ok (.dup2, 1) := by decide +kernel
theorem dX12_ruleLine_249 : decode cX12_ruleLine 249 = .ok (.iaload, 1) := by decide +kernel
theorem dX12_ruleLine_250 : decode cX12_ruleLine 250 = .ok (.iconst 1, 1) := by decide +kernel
theorem dX12_ruleLine_251 : decode cX12_ruleLine 251 = .ok (.iadd, 1) := by decide +kernel
theorem dX12_ruleLine_252 : decode cX12_ruleLine 252 = .ok (.iastore, 1) := by decide +kernel
theorem dX12_ruleLine_253 : decode cX12_ruleLine 253 = .ok (.return_, 1) := by decide +kernel
theorem mm_kl1 : mm_rl 1 1 1 := ⟨by decide, by decide⟩
theorem mm_kl9 : mm_rl 9 9 9 := ⟨by decide, by decide⟩
theorem hd_X12_otherWord : yX12_otherWord.cls = RX12 ∧ yX12_otherWord.cls ≠ "java/lang/invoke/MethodHandle" ∧ yX12_otherWord.cls ≠ "java/lang/invoke/VarHandle" ∧ (parseMethodDescriptor yX12_otherWord.desc).map (fun d => d.parameters.length) = some 2 := by decide +kernel
set_option maxHeartbeats 4000000 in
set_option maxRecDepth 100000 in
theorem M63_X12_in (l : Launch) (G : va_G) (cy : Nat → ClassId) (sz : Nat) (j_0 : Int64) (j_1 : Int64)   : mm_CI l yX12_in (mm_ws yX12_in cX12_in 6 (some .boolean)) ({ frames := 0, cells := 0, slots := 0, locals := 0 } : Room) G cy sz [] [.long j_0, .long 1, .long j_1] (fun u : Unit => []) (fun (r : Int32) (u : Unit) => ((0 = r ∧ mm_rl j_0 (-9223372036854775808) 9223372036854775807) ∨ (1 = r ∧ mm_rl j_0 1 9223372036854775807 ∧ mm_rl j_1 1 9223372036854775807 ∧ (j_0 : Int64).toInt ≤ (j_1 : Int64).toInt ∧ (1 : Int64).toInt ≤ (j_0 : Int64).toInt))) 0 0 := by
  refine mm_begin (lv := [(0, .long j_0), (2, .long 1), (4, .long j_1)]) (by decide) (Nat.le_of_ble_eq_true rfl) rfl ?_
  intro p e s m below meth c A ls R args Q H locs hRe hQ hAe hx hb hr hlocks hml hown hnm hts hsz hA hS hP hK hD hZ hl
  have hRf : R.frames = 0 := by rw [hRe]
  have hRl : R.locals = 0 := by rw [hRe]
  have hRc : R.cells = 0 := by rw [hRe]
  have hRs : R.slots = 0 := by rw [hRe]
  refine lv_lload_n hx hb dX12_in_0 rfl (lv_at hl 0 rfl) ?_
  refine lv_lload_n hx hb dX12_in_1 rfl (lv_at hl 1 rfl) ?_
  refine W.lcmp hx hb dX12_in_2 ?_
  refine lv_topi (fun v1 ev1 => ?_)
  refine lv_if_lt (tgt := 17) hx hb dX12_in_3 (by decide) (fun c2 => ?_) (fun c2 => ?_)
  · have q3 := mm_ltLl (h := 0) (mm_cmp_lt ev1 c2) (mm_topl j_0) mm_kl1 (by decide)
    refine lv_iconst (v := 0) hx hb dX12_in_17 (by decide) ?_
    subst hAe
    rw [hQ]
    exact W.zret (v := 0) hx hb hr rfl (fun t ht hW => ⟨⟨0, (), rfl, (Or.inl ⟨rfl, (mm_wkl q3 (by decide))⟩), by rw [ht]; exact hP, hK.warm hW, hD⟩, hS.F ht⟩) hS.2.2 dX12_in_18
  · have q4 := mm_leRl (mm_cmp_ge ev1 (mm_n_lt c2)) mm_kl1 (mm_topl j_0)
    refine lv_lload_n hx hb dX12_in_6 rfl (lv_at hl 0 rfl) ?_
    refine lv_lload hx hb dX12_in_7 (lv_at hl 2 rfl) ?_
    refine W.lcmp hx hb dX12_in_9 ?_
    refine lv_topi (fun v5 ev5 => ?_)
    refine lv_if_gt (tgt := 17) hx hb dX12_in_10 (by decide) (fun c6 => ?_) (fun c6 => ?_)
    · have q7 := mm_ltLl (h := 9223372036854775806) (mm_cmp_gt ev5 c6) (mm_topl j_1) q4 (by decide)
      refine lv_iconst (v := 0) hx hb dX12_in_17 (by decide) ?_
      subst hAe
      rw [hQ]
      exact W.zret (v := 0) hx hb hr rfl (fun t ht hW => ⟨⟨0, (), rfl, (Or.inl ⟨rfl, (mm_wkl q4 (by decide))⟩), by rw [ht]; exact hP, hK.warm hW, hD⟩, hS.F ht⟩) hS.2.2 dX12_in_18
    · have q8 := mm_leRl (mm_cmp_le ev5 (mm_n_gt c6)) q4 (mm_topl j_1)
      refine lv_iconst (v := 1) hx hb dX12_in_13 (by decide) ?_
      refine lv_goto (tgt := 18) hx hb dX12_in_14 (by decide) ?_
      have w9 : (j_0 : Int64).toInt ≤ (j_1 : Int64).toInt := (mm_cmp_le ev5 (mm_n_gt c6))
      have w10 : (1 : Int64).toInt ≤ (j_0 : Int64).toInt := (mm_cmp_ge ev1 (mm_n_lt c2))
      subst hAe
      rw [hQ]
      exact W.zret (v := 1) hx hb hr rfl (fun t ht hW => ⟨⟨1, (), rfl, (Or.inr ⟨rfl, q4, q8, w9, w10⟩), by rw [ht]; exact hP, hK.warm hW, hD⟩, hS.F ht⟩) hS.2.2 dX12_in_18

set_option maxHeartbeats 4000000 in
set_option maxRecDepth 100000 in
theorem M64_X12_number (l : Launch) (G : va_G) (cy : Nat → ClassId) (sz : Nat) (a_0 : Nat) (i_0 : Int32) (a_1 : Nat) (a_2 : Nat) (a_3 : Nat) (a_4 : Nat) (a_5 : Nat) (i_1 : Int32) (i_2 : Int32) (i_3 : Int32) (i_4 : Int32) (i_5 : Int32) (j_0 : Int64) (i_6 : Int32) (i_7 : Int32) (i_8 : Int32) (i_9 : Int32) (a_6 : Nat) (a_7 : Nat) (a_8 : Nat) (a_9 : Nat) (a_10 : Nat) (a_11 : Nat) (a_12 : Nat) (a_13 : Nat) (a_14 : Nat) (a_15 : Nat) (a_16 : Nat) (a_17 : Nat) (a_18 : Nat) (i_10 : Int32) (i_11 : Int32) (i_12 : Int32) (i_13 : Int32) (i_14 : Int32) (i_15 : Int32) (a_19 : Nat) (i_16 : Int32) (a_20 : Nat) (f_0 : Nat → Int32) (h0 : mm_rg i_1 0 600) (h1 : mm_rg i_2 0 600) (h2 : mm_rg i_3 0 4) (h3 : mm_rg i_4 0 600) (h4 : mm_rg i_6 0 3) (h5 : mm_ar f_0 (-128) 127) (h6 : (i_4 : Int32).toInt ≤ (i_2 : Int32).toInt) (h7 : (i_2 : Int32).toInt ≤ (i_1 : Int32).toInt) (h8 : mm_tk i_3 i_4 i_2)  : mm_CI l yX12_number (mm_ws yX12_number cX12_number 4 (some .int)) ({ frames := 2, cells := 0, slots := 0, locals := 44 } : Room) G cy sz [(a_0, .inr (12, [.int i_0, .ref a_1, .ref a_2, .ref a_3, .ref a_4, .ref a_5, .int i_1, .int i_2, .int i_3, .int i_4, .int i_5, .long j_0, .int i_6, .int i_7, .int i_8, .int i_9, .ref a_6, .ref a_7, .ref a_8, .ref a_9, .ref a_10, .ref a_11, .ref a_12, .ref a_13, .ref a_14, .ref a_15, .ref a_16, .ref a_17, .ref a_18, .int i_10, .int i_11, .int i_12, .int i_13, .int i_14, .int i_15, .ref a_19, .int i_16, .ref a_20])), (a_5, .inl (cy 0, 600, .inl f_0))] [.ref a_0, .int 1, .int 9] (fun u : Int32 × Int32 × Int32 × Int32 × Int64 × Int32 × Int32 => [(a_0, .inr (12, [.int i_0, .ref a_1, .ref a_2, .ref a_3, .ref a_4, .ref a_5, .int i_1, .int u.1, .int u.2.1, .int u.2.2.1, .int u.2.2.2.1, .long u.2.2.2.2.1, .int u.2.2.2.2.2.1, .int u.2.2.2.2.2.2, .int i_8, .int i_9, .ref a_6, .ref a_7, .ref a_8, .ref a_9, .ref a_10, .ref a_11, .ref a_12, .ref a_13, .ref a_14, .ref a_15, .ref a_16, .ref a_17, .ref a_18, .int i_10, .int i_11, .int i_12, .int i_13, .int i_14, .int i_15, .ref a_19, .int i_16, .ref a_20])), (a_5, .inl (cy 0, 600, .inl f_0))]) (fun (r : Int32) (u : Int32 × Int32 × Int32 × Int32 × Int64 × Int32 × Int32) => mm_rg u.1 0 600 ∧ mm_rg u.2.1 0 4 ∧ mm_rg u.2.2.1 0 600 ∧ mm_rg u.2.2.2.2.2.1 0 3 ∧ (u.2.2.1 : Int32).toInt ≤ (u.1 : Int32).toInt ∧ (u.1 : Int32).toInt ≤ (i_1 : Int32).toInt ∧ mm_tk u.2.1 u.2.2.1 u.1 ∧ (i_4 : Int32).toInt ≤ (u.2.2.1 : Int32).toInt ∧ mm_b0 i_6 u.2.2.2.2.2.1 ∧ mm_rg r 1 9 ∧ (r : Int32).toInt ≤ (9 : Int32).toInt ∧ mm_nv u.2.2.2.2.2.1 r i_3 i_5) 0 0 := by
  refine mm_begin (lv := [(0, .ref a_0), (1, .int 1), (2, .int 9)]) (by decide) (Nat.le_of_ble_eq_true rfl) rfl ?_
  intro p e s m below meth c A ls R args Q H locs hRe hQ hAe hx hb hr hlocks hml hown hnm hts hsz hA hS hP hK hD hZ hl
  have hRf : R.frames = 2 := by rw [hRe]
  have hRl : R.locals = 44 := by rw [hRe]
  have hRc : R.cells = 0 := by rw [hRe]
  have hRs : R.slots = 0 := by rw [hRe]
  refine lv_aload_n hx hb dX12_number_0 rfl (lv_at hl 0 rfl) ?_
  refine va_get (D := G) (ci := 12) (v := .int i_6) (C := RX12) (T := TX12) (N := 38) hx hb hts (mm_i inlX12) hown hK.1 hP 0 rfl rfl 12 (by decide) (mm_h hts mm_w436) (fun _ h9 => h9) rfl dX12_number_1 ?_
  refine lv_if_eq (tgt := 9) hx hb dX12_number_4 (by decide) (fun c1 => ?_) (fun c1 => ?_)
  · have q2 := mm_eqI (lo := 0) (hi := 0) c1 h4 mm_k0 (by decide)
    refine lv_aload_n hx hb dX12_number_9 rfl (lv_at hl 0 rfl) ?_
    refine va_get (D := G) (ci := 12) (v := .int i_3) (C := RX12) (T := TX12) (N := 38) hx hb hts (mm_i inlX12) hown hK.1 hP 0 rfl rfl 8 (by decide) (mm_h hts mm_w432) (fun _ h9 => h9) rfl dX12_number_10 ?_
    refine lv_iconst (v := 2) hx hb dX12_number_13 (by decide) ?_
    refine lv_icmp_eq (tgt := 24) hx hb dX12_number_14 (by decide) (fun c3 => ?_) (fun c3 => ?_)
    · have q4 := mm_eqI (lo := 2) (hi := 2) c3 h2 mm_k2 (by decide)
      refine lv_aload_n hx hb dX12_number_24 rfl (lv_at hl 0 rfl) ?_
      refine va_get (D := G) (ci := 12) (v := .int i_5) (C := RX12) (T := TX12) (N := 38) hx hb hts (mm_i inlX12) hown hK.1 hP 0 rfl rfl 10 (by decide) (mm_h hts mm_w456) (fun _ h9 => h9) rfl dX12_number_25 ?_
      obtain ⟨v5, ev5⟩ : ∃ y : Int64, y = i_5.toInt64 := ⟨_, rfl⟩
      refine lv_i2l hx hb dX12_number_28 ev5.symm ?_
      have rv5 : mm_rl v5 (-2147483648) 2147483647 := mm_i2l ev5 (mm_top i_5)
      refine lv_iload_n hx hb dX12_number_29 rfl (lv_at hl 1 rfl) ?_
      refine lv_i2l (v := 1) hx hb dX12_number_30 (by decide) ?_
      refine lv_iload_n hx hb dX12_number_31 rfl (lv_at hl 2 rfl) ?_
      refine lv_i2l (v := 9) hx hb dX12_number_32 (by decide) ?_
      refine mm_finir (va_runS (As := [.long v5, .long 1, .long 9]) (rest := []) ⟨hx, hb, hml, hown, hts⟩ (M63_X12_in l G cy H.size v5 9 ) (va_cwS 3 hts (mm_gS mm_w191 mm_w192 mm_w5 mm_w193) rfl rfl rfl hs_X12_in ⟨by rw [hRf]; exact Nat.le_of_ble_eq_true rfl, by rw [hRl]; exact Nat.le_of_ble_eq_true rfl⟩) (mm_preS hK hZ hS hA hP hD [] rfl rfl) rfl rfl hl.1 rfl (lv_room (Nat.le_of_ble_eq_true rfl)) dX12_number_33 ⟨by rw [hRc]; exact Nat.le_of_ble_eq_true rfl, by rw [hRs]; exact Nat.le_of_ble_eq_true rfl⟩) hP hD hS hA [] rfl (fun _ => rfl) ?_
      clear hP hD hS
      clear H locs
      intro v6 _u H locs hw hP hD hS
      rcases hw with ⟨rfl, w7⟩ | ⟨rfl, w8, w9, w10, w11⟩
      · refine lv_if_ne (tgt := 46) hx hb dX12_number_36 (by decide) (fun c12 => ?_) (fun c12 => ?_)
        · exact absurd rfl (mm_ne c12)
        · refine lv_aload_n hx hb dX12_number_39 rfl (lv_at hl 0 rfl) ?_
          refine lv_iconst (v := 2) hx hb dX12_number_40 (by decide) ?_
          refine mm_finv (va_runV (As := [.int 2]) (rest := []) ⟨hx, hb, hml, hown, hts⟩ (M29_X12_fails l G cy H.size a_0 i_0 a_1 a_2 a_3 a_4 a_5 i_1 i_2 i_3 i_4 i_5 j_0 i_6 i_7 i_8 i_9 a_6 a_7 a_8 a_9 a_10 a_11 a_12 a_13 a_14 a_15 a_16 a_17 a_18 i_10 i_11 i_12 i_13 i_14 i_15 a_19 i_16 a_20 h3 (mm_wk q2 (by decide))) (cwV 1 hts (mm_gV mm_w483 mm_w484 mm_w485 mm_w5 mm_w486) rfl rfl rfl hd_X12_fails ⟨by rw [hRf]; exact Nat.le_of_ble_eq_true rfl, by rw [hRl]; exact Nat.le_of_ble_eq_true rfl⟩) (mm_preV hK hZ hS hA hP hD [0] rfl rfl 0 rfl rfl rfl) rfl rfl hl.1 rfl (lv_room (Nat.le_of_ble_eq_true rfl)) dX12_number_41 ⟨by rw [hRc]; exact Nat.le_of_ble_eq_true rfl, by rw [hRs]; exact Nat.le_of_ble_eq_true rfl⟩) hP hD hS hA (fun u : Int32 × Int32 => [(a_0, .inr (12, [.int i_0, .ref a_1, .ref a_2, .ref a_3, .ref a_4, .ref a_5, .int i_1, .int i_2, .int i_3, .int i_4, .int i_5, .long j_0, .int u.1, .int u.2, .int i_8, .int i_9, .ref a_6, .ref a_7, .ref a_8, .ref a_9, .ref a_10, .ref a_11, .ref a_12, .ref a_13, .ref a_14, .ref a_15, .ref a_16, .ref a_17, .ref a_18, .int i_10, .int i_11, .int i_12, .int i_13, .int i_14, .int i_15, .ref a_19, .int i_16, .ref a_20])), (a_5, .inl (cy 0, 600, .inl f_0))]) [0] [1] (n := 2) (fun _ => rfl) (by decide +kernel) (by decide +kernel) rfl (fun _ => rfl) (wr := [(a_5, .inl (cy 0, 600, .inl f_0))]) rfl (fun _ => rfl) (fun _ => rfl) ?_
          clear hP hD hS
          clear H locs
          intro u
          obtain ⟨n13, n14⟩ := u
          intro H locs hw (hP : va_P G vwCl [(a_0, .inr (12, [.int i_0, .ref a_1, .ref a_2, .ref a_3, .ref a_4, .ref a_5, .int i_1, .int i_2, .int i_3, .int i_4, .int i_5, .long j_0, .int n13, .int n14, .int i_8, .int i_9, .ref a_6, .ref a_7, .ref a_8, .ref a_9, .ref a_10, .ref a_11, .ref a_12, .ref a_13, .ref a_14, .ref a_15, .ref a_16, .ref a_17, .ref a_18, .int i_10, .int i_11, .int i_12, .int i_13, .int i_14, .int i_15, .ref a_19, .int i_16, .ref a_20])), (a_5, .inl (cy 0, 600, .inl f_0))] H) (hD : va_D A [(a_0, .inr (12, [.int i_0, .ref a_1, .ref a_2, .ref a_3, .ref a_4, .ref a_5, .int i_1, .int i_2, .int i_3, .int i_4, .int i_5, .long j_0, .int n13, .int n14, .int i_8, .int i_9, .ref a_6, .ref a_7, .ref a_8, .ref a_9, .ref a_10, .ref a_11, .ref a_12, .ref a_13, .ref a_14, .ref a_15, .ref a_16, .ref a_17, .ref a_18, .int i_10, .int i_11, .int i_12, .int i_13, .int i_14, .int i_15, .ref a_19, .int i_16, .ref a_20])), (a_5, .inl (cy 0, 600, .inl f_0))]) hS
          have w15 := hw
          refine lv_iload_n hx hb dX12_number_44 rfl (lv_at hl 1 rfl) ?_
          have w16 : (i_4 : Int32).toInt ≤ (i_4 : Int32).toInt := (Int.le_refl _)
          have w17 : mm_b0 i_6 n13 := (mm_b0_n w15 (by decide))
          have w18 : (1 : Int32).toInt ≤ (9 : Int32).toInt := (mm_leC mm_k1 mm_k9 (by decide))
          have w19 : mm_nv n13 1 i_3 i_5 := (mm_nv_n w15 (by decide))
          subst hAe
          rw [hQ]
          exact W.iret (v := 1) hx hb hr (fun t ht hW => ⟨⟨1, (i_2, i_3, i_4, i_5, j_0, n13, n14), rfl, ⟨h1, (mm_wk q4 (by decide)), h3, (mm_wk w15 (by decide)), h6, h7, h8, w16, w17, ⟨(mm_wk mm_k1 (by decide)), w18, w19⟩⟩, by rw [ht]; exact hP, hK.warm hW, hD⟩, hS.F ht⟩) hS.2.2 dX12_number_45
      · have q20 := mm_meetl (lo := 1) (hi := 2147483647) w8 rv5 (by decide)
        have q21 := mm_meet (lo := 1) (hi := 2147483647) (mm_l2x ev5 q20) (mm_top i_5) (by decide)
        have q22 := mm_leLl w10 q20 mm_kl9
        have q23 := mm_meet (lo := 1) (hi := 9) (mm_l2x ev5 q22) q21 (by decide)
        refine lv_if_ne (tgt := 46) hx hb dX12_number_36 (by decide) (fun c24 => ?_) (fun c24 => ?_)
        · refine lv_aload_n hx hb dX12_number_46 rfl (lv_at hl 0 rfl) ?_
          refine va_get (D := G) (ci := 12) (v := .int i_5) (C := RX12) (T := TX12) (N := 38) hx hb hts (mm_i inlX12) hown hK.1 hP 0 rfl rfl 10 (by decide) (mm_h hts mm_w456) (fun _ h9 => h9) rfl dX12_number_47 ?_
          refine lv_istore_n (lv' := [(3, .int i_5), (0, .ref a_0), (1, .int 1), (2, .int 9)]) hx hb dX12_number_50 rfl hl (by decide) rfl ?_
          clear hl
          clear ls
          intro ls hl
          refine lv_aload_n hx hb dX12_number_51 rfl (lv_at hl 1 rfl) ?_
          refine mm_finv (va_runV (As := []) (rest := []) ⟨hx, hb, hml, hown, hts⟩ (M22_X12_next l G cy H.size a_0 i_0 a_1 a_2 a_3 a_4 a_5 i_1 i_2 i_3 i_4 i_5 j_0 i_6 i_7 i_8 i_9 a_6 a_7 a_8 a_9 a_10 a_11 a_12 a_13 a_14 a_15 a_16 a_17 a_18 i_10 i_11 i_12 i_13 i_14 i_15 a_19 i_16 a_20 f_0 h0 h1 (mm_wk q4 (by decide)) h3 h5 h7) (cwV 0 hts (mm_gV mm_w451 mm_w452 mm_w453 mm_w5 mm_w454) rfl rfl rfl hd_X12_next ⟨by rw [hRf]; exact Nat.le_of_ble_eq_true rfl, by rw [hRl]; exact Nat.le_of_ble_eq_true rfl⟩) (mm_preV hK hZ hS hA hP hD [0, 1] rfl rfl 0 rfl rfl rfl) rfl rfl hl.1 rfl (lv_room (Nat.le_of_ble_eq_true rfl)) dX12_number_52 ⟨by rw [hRc]; exact Nat.le_of_ble_eq_true rfl, by rw [hRs]; exact Nat.le_of_ble_eq_true rfl⟩) hP hD hS hA (fun u : Int32 × Int32 × Int32 × Int32 × Int64 => [(a_0, .inr (12, [.int i_0, .ref a_1, .ref a_2, .ref a_3, .ref a_4, .ref a_5, .int i_1, .int u.1, .int u.2.1, .int u.2.2.1, .int u.2.2.2.1, .long u.2.2.2.2, .int i_6, .int i_7, .int i_8, .int i_9, .ref a_6, .ref a_7, .ref a_8, .ref a_9, .ref a_10, .ref a_11, .ref a_12, .ref a_13, .ref a_14, .ref a_15, .ref a_16, .ref a_17, .ref a_18, .int i_10, .int i_11, .int i_12, .int i_13, .int i_14, .int i_15, .ref a_19, .int i_16, .ref a_20])), (a_5, .inl (cy 0, 600, .inl f_0))]) [0, 1] [] (n := 2) (fun _ => rfl) (by decide +kernel) (by decide +kernel) rfl (fun _ => rfl) (wr := []) rfl (fun _ => rfl) (fun _ => rfl) ?_
          clear hP hD hS
          clear H locs
          intro u
          obtain ⟨n25, n26, n27, n28, n29⟩ := u
          intro H locs hw (hP : va_P G vwCl [(a_0, .inr (12, [.int i_0, .ref a_1, .ref a_2, .ref a_3, .ref a_4, .ref a_5, .int i_1, .int n25, .int n26, .int n27, .int n28, .long n29, .int i_6, .int i_7, .int i_8, .int i_9, .ref a_6, .ref a_7, .ref a_8, .ref a_9, .ref a_10, .ref a_11, .ref a_12, .ref a_13, .ref a_14, .ref a_15, .ref a_16, .ref a_17, .ref a_18, .int i_10, .int i_11, .int i_12, .int i_13, .int i_14, .int i_15, .ref a_19, .int i_16, .ref a_20])), (a_5, .inl (cy 0, 600, .inl f_0))] H) (hD : va_D A [(a_0, .inr (12, [.int i_0, .ref a_1, .ref a_2, .ref a_3, .ref a_4, .ref a_5, .int i_1, .int n25, .int n26, .int n27, .int n28, .long n29, .int i_6, .int i_7, .int i_8, .int i_9, .ref a_6, .ref a_7, .ref a_8, .ref a_9, .ref a_10, .ref a_11, .ref a_12, .ref a_13, .ref a_14, .ref a_15, .ref a_16, .ref a_17, .ref a_18, .int i_10, .int i_11, .int i_12, .int i_13, .int i_14, .int i_15, .ref a_19, .int i_16, .ref a_20])), (a_5, .inl (cy 0, 600, .inl f_0))]) hS
          obtain ⟨w30, w31, w32, w33, w34, w35, w36⟩ := hw
          replace w33 : (n27 : Int32).toInt ≤ (n25 : Int32).toInt := w33
          replace w34 : (n25 : Int32).toInt ≤ (i_1 : Int32).toInt := w34
          replace w35 : mm_tk n26 n27 n25 := w35
          replace w36 : (i_2 : Int32).toInt ≤ (n27 : Int32).toInt := w36
          refine lv_iload_n hx hb dX12_number_55 rfl (lv_at hl 0 rfl) ?_
          have w37 : (i_4 : Int32).toInt ≤ (n27 : Int32).toInt := (by have := h6; have := w36; omega)
          have w38 : mm_b0 i_6 i_6 := (fun h => h)
          have w39 : (i_5 : Int32).toInt ≤ (9 : Int32).toInt := (mm_leC q23 mm_k9 (by decide))
          have w40 : mm_nv i_6 i_5 i_3 i_5 := (mm_nv_y q4 (by decide))
          subst hAe
          rw [hQ]
          exact W.iret (v := i_5) hx hb hr (fun t ht hW => ⟨⟨i_5, (n25, n26, n27, n28, n29, i_6, i_7), rfl, ⟨w30, w31, w32, (mm_wk q2 (by decide)), w33, w34, w35, w37, w38, ⟨q23, w39, w40⟩⟩, by rw [ht]; exact hP, hK.warm hW, hD⟩, hS.F ht⟩) hS.2.2 dX12_number_56
        · exact mm_eqN c24.symm mm_k0 mm_k1 (by decide)
    · refine lv_aload_n hx hb dX12_number_17 rfl (lv_at hl 0 rfl) ?_
      refine lv_iconst (v := 1) hx hb dX12_number_18 (by decide) ?_
      refine mm_finv (va_runV (As := [.int 1]) (rest := []) ⟨hx, hb, hml, hown, hts⟩ (M27_X12_fails l G cy H.size a_0 i_0 a_1 a_2 a_3 a_4 a_5 i_1 i_2 i_3 i_4 i_5 j_0 i_6 i_7 i_8 i_9 a_6 a_7 a_8 a_9 a_10 a_11 a_12 a_13 a_14 a_15 a_16 a_17 a_18 i_10 i_11 i_12 i_13 i_14 i_15 a_19 i_16 a_20 h3 (mm_wk q2 (by decide))) (cwV 1 hts (mm_gV mm_w483 mm_w484 mm_w485 mm_w5 mm_w486) rfl rfl rfl hd_X12_fails ⟨by rw [hRf]; exact Nat.le_of_ble_eq_true rfl, by rw [hRl]; exact Nat.le_of_ble_eq_true rfl⟩) (mm_preV hK hZ hS hA hP hD [0] rfl rfl 0 rfl rfl rfl) rfl rfl hl.1 rfl (lv_room (Nat.le_of_ble_eq_true rfl)) dX12_number_19 ⟨by rw [hRc]; exact Nat.le_of_ble_eq_true rfl, by rw [hRs]; exact Nat.le_of_ble_eq_true rfl⟩) hP hD hS hA (fun u : Int32 × Int32 => [(a_0, .inr (12, [.int i_0, .ref a_1, .ref a_2, .ref a_3, .ref a_4, .ref a_5, .int i_1, .int i_2, .int i_3, .int i_4, .int i_5, .long j_0, .int u.1, .int u.2, .int i_8, .int i_9, .ref a_6, .ref a_7, .ref a_8, .ref a_9, .ref a_10, .ref a_11, .ref a_12, .ref a_13, .ref a_14, .ref a_15, .ref a_16, .ref a_17, .ref a_18, .int i_10, .int i_11, .int i_12, .int i_13, .int i_14, .int i_15, .ref a_19, .int i_16, .ref a_20])), (a_5, .inl (cy 0, 600, .inl f_0))]) [0] [1] (n := 2) (fun _ => rfl) (by decide +kernel) (by decide +kernel) rfl (fun _ => rfl) (wr := [(a_5, .inl (cy 0, 600, .inl f_0))]) rfl (fun _ => rfl) (fun _ => rfl) ?_
      clear hP hD hS
      clear H locs
      intro u
      obtain ⟨n41, n42⟩ := u
      intro H locs hw (hP : va_P G vwCl [(a_0, .inr (12, [.int i_0, .ref a_1, .ref a_2, .ref a_3, .ref a_4, .ref a_5, .int i_1, .int i_2, .int i_3, .int i_4, .int i_5, .long j_0, .int n41, .int n42, .int i_8, .int i_9, .ref a_6, .ref a_7, .ref a_8, .ref a_9, .ref a_10, .ref a_11, .ref a_12, .ref a_13, .ref a_14, .ref a_15, .ref a_16, .ref a_17, .ref a_18, .int i_10, .int i_11, .int i_12, .int i_13, .int i_14, .int i_15, .ref a_19, .int i_16, .ref a_20])), (a_5, .inl (cy 0, 600, .inl f_0))] H) (hD : va_D A [(a_0, .inr (12, [.int i_0, .ref a_1, .ref a_2, .ref a_3, .ref a_4, .ref a_5, .int i_1, .int i_2, .int i_3, .int i_4, .int i_5, .long j_0, .int n41, .int n42, .int i_8, .int i_9, .ref a_6, .ref a_7, .ref a_8, .ref a_9, .ref a_10, .ref a_11, .ref a_12, .ref a_13, .ref a_14, .ref a_15, .ref a_16, .ref a_17, .ref a_18, .int i_10, .int i_11, .int i_12, .int i_13, .int i_14, .int i_15, .ref a_19, .int i_16, .ref a_20])), (a_5, .inl (cy 0, 600, .inl f_0))]) hS
      have w43 := hw
      refine lv_iload_n hx hb dX12_number_22 rfl (lv_at hl 1 rfl) ?_
      have w44 : (i_4 : Int32).toInt ≤ (i_4 : Int32).toInt := (Int.le_refl _)
      have w45 : mm_b0 i_6 n41 := (mm_b0_n w43 (by decide))
      have w46 : (1 : Int32).toInt ≤ (9 : Int32).toInt := (mm_leC mm_k1 mm_k9 (by decide))
      have w47 : mm_nv n41 1 i_3 i_5 := (mm_nv_n w43 (by decide))
      subst hAe
      rw [hQ]
      exact W.iret (v := 1) hx hb hr (fun t ht hW => ⟨⟨1, (i_2, i_3, i_4, i_5, j_0, n41, n42), rfl, ⟨h1, h2, h3, (mm_wk w43 (by decide)), h6, h7, h8, w44, w45, ⟨(mm_wk mm_k1 (by decide)), w46, w47⟩⟩, by rw [ht]; exact hP, hK.warm hW, hD⟩, hS.F ht⟩) hS.2.2 dX12_number_23
  · have q48 := mm_neL (lo := 1) (mm_ne c1) h4 mm_k0 (by decide) (by decide)
    refine lv_iload_n hx hb dX12_number_7 rfl (lv_at hl 1 rfl) ?_
    have w49 : (i_4 : Int32).toInt ≤ (i_4 : Int32).toInt := (Int.le_refl _)
    have w50 : mm_b0 i_6 i_6 := (fun h => h)
    have w51 : (1 : Int32).toInt ≤ (9 : Int32).toInt := (mm_leC mm_k1 mm_k9 (by decide))
    have w52 : mm_nv i_6 1 i_3 i_5 := (mm_nv_n q48 (by decide))
    subst hAe
    rw [hQ]
    exact W.iret (v := 1) hx hb hr (fun t ht hW => ⟨⟨1, (i_2, i_3, i_4, i_5, j_0, i_6, i_7), rfl, ⟨h1, h2, h3, (mm_wk q48 (by decide)), h6, h7, h8, w49, w50, ⟨(mm_wk mm_k1 (by decide)), w51, w52⟩⟩, by rw [ht]; exact hP, hK.warm hW, hD⟩, hS.F ht⟩) hS.2.2 dX12_number_8

set_option maxHeartbeats 4000000 in
set_option maxRecDepth 100000 in
theorem M65_X12_ruleLine (l : Launch) (G : va_G) (cy : Nat → ClassId) (sz : Nat) (a_0 : Nat) (i_0 : Int32) (a_1 : Nat) (a_2 : Nat) (a_3 : Nat) (a_4 : Nat) (a_5 : Nat) (i_1 : Int32) (i_2 : Int32) (i_3 : Int32) (i_4 : Int32) (i_5 : Int32) (j_0 : Int64) (i_6 : Int32) (i_7 : Int32) (i_8 : Int32) (i_9 : Int32) (a_6 : Nat) (a_7 : Nat) (a_8 : Nat) (a_9 : Nat) (a_10 : Nat) (a_11 : Nat) (a_12 : Nat) (a_13 : Nat) (a_14 : Nat) (a_15 : Nat) (a_16 : Nat) (a_17 : Nat) (a_18 : Nat) (i_10 : Int32) (i_11 : Int32) (i_12 : Int32) (i_13 : Int32) (i_14 : Int32) (i_15 : Int32) (a_19 : Nat) (i_16 : Int32) (a_20 : Nat) (f_0 : Nat → Int32) (i_17 : Int32) (i_18 : Int32) (i_19 : Int32) (i_20 : Int32) (i_21 : Int32) (i_22 : Int32) (i_23 : Int32) (i_24 : Int32) (i_25 : Int32) (i_26 : Int32) (i_27 : Int32) (i_28 : Int32) (i_29 : Int32) (i_30 : Int32) (i_31 : Int32) (i_32 : Int32) (i_33 : Int32) (i_34 : Int32) (i_35 : Int32) (i_36 : Int32) (i_37 : Int32) (i_38 : Int32) (i_39 : Int32) (i_40 : Int32) (i_41 : Int32) (i_42 : Int32) (i_43 : Int32) (i_44 : Int32) (i_45 : Int32) (i_46 : Int32) (f_1 : Nat → Int32) (f_2 : Nat → Int32) (h0 : mm_rg i_1 0 600) (h1 : mm_rg i_2 0 600) (h2 : mm_rg i_3 0 4) (h3 : mm_rg i_4 0 600) (h4 : mm_rg i_6 0 3) (h5 : mm_ar f_0 (-128) 127) (h6 : mm_rg i_17 0 10) (h7 : mm_rg i_18 0 99) (h8 : mm_rg i_19 0 9) (h9 : mm_rg i_20 0 3) (h10 : mm_rg i_21 0 6) (h11 : mm_rg i_22 0 30) (h12 : mm_rg i_23 0 10) (h13 : mm_rg i_24 0 99) (h14 : mm_rg i_25 0 9) (h15 : mm_rg i_26 0 3) (h16 : mm_rg i_27 0 6) (h17 : mm_rg i_28 0 30) (h18 : mm_rg i_29 0 10) (h19 : mm_rg i_30 0 99) (h20 : mm_rg i_31 0 9) (h21 : mm_rg i_32 0 3) (h22 : mm_rg i_33 0 6) (h23 : mm_rg i_34 0 30) (h24 : mm_rg i_35 0 10) (h25 : mm_rg i_36 0 99) (h26 : mm_rg i_37 0 9) (h27 : mm_rg i_38 0 3) (h28 : mm_rg i_39 0 6) (h29 : mm_rg i_40 0 30) (h30 : mm_rg i_41 0 10) (h31 : mm_rg i_42 0 99) (h32 : mm_rg i_43 0 9) (h33 : mm_rg i_44 1 3) (h34 : mm_rg i_45 0 6) (h35 : mm_rg i_46 0 30) (h36 : mm_ar f_1 0 7) (h37 : mm_ar f_2 0 9) (h38 : mm_rls f_1 f_2 0 i_19 i_20) (h39 : mm_rls f_1 f_2 1 i_25 i_26) (h40 : mm_rls f_1 f_2 2 i_31 i_32) (h41 : mm_rls f_1 f_2 3 i_37 i_38) (h42 : (i_4 : Int32).toInt ≤ (i_2 : Int32).toInt) (h43 : (i_2 : Int32).toInt ≤ (i_1 : Int32).toInt) (h44 : mm_tk i_3 i_4 i_2) (h45 : mm_rq f_1 i_44) (h46 : mm_rls f_1 f_2 4 i_43 i_44)  : mm_CV l yX12_ruleLine (mm_ws yX12_ruleLine cX12_ruleLine 8 (none)) ({ frames := 5, cells := 0, slots := 0, locals := 109 } : Room) G cy sz [(a_0, .inr (12, [.int i_0, .ref a_1, .ref a_2, .ref a_3, .ref a_4, .ref a_5, .int i_1, .int i_2, .int i_3, .int i_4, .int i_5, .long j_0, .int i_6, .int i_7, .int i_8, .int i_9, .ref a_6, .ref a_7, .ref a_8, .ref a_9, .ref a_10, .ref a_11, .ref a_12, .ref a_13, .ref a_14, .ref a_15, .ref a_16, .ref a_17, .ref a_18, .int i_10, .int i_11, .int i_12, .int i_13, .int i_14, .int i_15, .ref a_19, .int i_16, .ref a_20])), (a_5, .inl (cy 0, 600, .inl f_0)), (a_7, .inl (cy 1, 30, .inl (mm_g [i_17, i_18, i_19, i_20, i_21, i_22, i_23, i_24, i_25, i_26, i_27, i_28, i_29, i_30, i_31, i_32, i_33, i_34, i_35, i_36, i_37, i_38, i_39, i_40, i_41, i_42, i_43, i_44, i_45, i_46]))), (a_9, .inl (cy 1, 15, .inl f_1)), (a_10, .inl (cy 1, 1050, .inl f_2))] [.ref a_0] (fun u : Int32 × Int32 × Int32 × Int32 × Int64 × Int32 × Int32 × (Nat → Int32) × (Nat → Int32) => [(a_0, .inr (12, [.int i_0, .ref a_1, .ref a_2, .ref a_3, .ref a_4, .ref a_5, .int i_1, .int u.1, .int u.2.1, .int u.2.2.1, .int u.2.2.2.1, .long u.2.2.2.2.1, .int u.2.2.2.2.2.1, .int u.2.2.2.2.2.2.1, .int i_8, .int i_9, .ref a_6, .ref a_7, .ref a_8, .ref a_9, .ref a_10, .ref a_11, .ref a_12, .ref a_13, .ref a_14, .ref a_15, .ref a_16, .ref a_17, .ref a_18, .int i_10, .int i_11, .int i_12, .int i_13, .int i_14, .int i_15, .ref a_19, .int i_16, .ref a_20])), (a_5, .inl (cy 0, 600, .inl f_0)), (a_7, .inl (cy 1, 30, .inl (mm_g [i_17, i_18, i_19, i_20, i_21, i_22, i_23, i_24, i_25, i_26, i_27, i_28, i_29, i_30, i_31, i_32, i_33, i_34, i_35, i_36, i_37, i_38, i_39, i_40, i_41, i_42, i_43, i_44, i_45, i_46]))), (a_9, .inl (cy 1, 15, .inl u.2.2.2.2.2.2.2.1)), (a_10, .inl (cy 1, 1050, .inl u.2.2.2.2.2.2.2.2))]) (fun u : Int32 × Int32 × Int32 × Int32 × Int64 × Int32 × Int32 × (Nat → Int32) × (Nat → Int32) => mm_rg u.1 0 600 ∧ mm_rg u.2.1 0 4 ∧ mm_rg u.2.2.1 0 600 ∧ mm_rg u.2.2.2.2.2.1 0 3 ∧ mm_ar u.2.2.2.2.2.2.2.1 0 7 ∧ mm_ar u.2.2.2.2.2.2.2.2 0 9 ∧ mm_rls u.2.2.2.2.2.2.2.1 u.2.2.2.2.2.2.2.2 0 i_19 i_20 ∧ mm_rls u.2.2.2.2.2.2.2.1 u.2.2.2.2.2.2.2.2 1 i_25 i_26 ∧ mm_rls u.2.2.2.2.2.2.2.1 u.2.2.2.2.2.2.2.2 2 i_31 i_32 ∧ mm_rls u.2.2.2.2.2.2.2.1 u.2.2.2.2.2.2.2.2 3 i_37 i_38 ∧ (u.2.2.1 : Int32).toInt ≤ (u.1 : Int32).toInt ∧ (u.1 : Int32).toInt ≤ (i_1 : Int32).toInt ∧ mm_tk u.2.1 u.2.2.1 u.1 ∧ (i_4 : Int32).toInt ≤ (u.2.2.1 : Int32).toInt ∧ mm_rls u.2.2.2.2.2.2.2.1 u.2.2.2.2.2.2.2.2 4 i_43 i_44 ∧ mm_fr f_1 u.2.2.2.2.2.2.2.1 12 ∧ mm_fr f_2 u.2.2.2.2.2.2.2.2 840) 0 0 := by
  refine mm_begin (lv := [(0, .ref a_0)]) (by decide) (Nat.le_of_ble_eq_true rfl) rfl ?_
  intro p e s m below meth c A ls R args Q H locs hRe hQ hAe hx hb hr hlocks hml hown hnm hts hsz hA hS hP hK hD hZ hl
  have hRf : R.frames = 5 := by rw [hRe]
  have hRl : R.locals = 109 := by rw [hRe]
  have hRc : R.cells = 0 := by rw [hRe]
  have hRs : R.slots = 0 := by rw [hRe]
  refine lv_bipush (v := 12) hx hb dX12_ruleLine_0 (by decide) ?_
  refine lv_aload_n hx hb dX12_ruleLine_2 rfl (lv_at hl 0 rfl) ?_
  refine lv_iconst (v := 3) hx hb dX12_ruleLine_3 (by decide) ?_
  refine mm_finir (va_runV (As := [.int 3]) (rest := [.int 12]) ⟨hx, hb, hml, hown, hts⟩ (M39_X12_hasRead l G cy H.size a_0 i_0 a_1 a_2 a_3 a_4 a_5 i_1 i_2 i_3 i_4 i_5 j_0 i_6 i_7 i_8 i_9 a_6 a_7 a_8 a_9 a_10 a_11 a_12 a_13 a_14 a_15 a_16 a_17 a_18 i_10 i_11 i_12 i_13 i_14 i_15 a_19 i_16 a_20 i_17 i_18 i_19 i_20 i_21 i_22 i_23 i_24 i_25 i_26 i_27 i_28 i_29 i_30 i_31 i_32 i_33 i_34 i_35 i_36 i_37 i_38 i_39 i_40 i_41 i_42 i_43 i_44 i_45 i_46 h6 h7 h8 h9 h10 h11 h12 h13 h14 h15 h16 h17 h18 h19 h20 h21 h22 h23 h24 h25 h26 h27 h28 h29 h30 h31 h32 (mm_wk h33 (by decide)) h34 h35) (cwV 1 hts (mm_gV mm_w503 mm_w504 mm_w505 mm_w5 mm_w506) rfl rfl rfl hd_X12_hasRead ⟨by rw [hRf]; exact Nat.le_of_ble_eq_true rfl, by rw [hRl]; exact Nat.le_of_ble_eq_true rfl⟩) (mm_preV hK hZ hS hA hP hD [0, 2] rfl rfl 0 rfl rfl rfl) rfl rfl hl.1 rfl (lv_room (Nat.le_of_ble_eq_true rfl)) dX12_ruleLine_4 ⟨by rw [hRc]; exact Nat.le_of_ble_eq_true rfl, by rw [hRs]; exact Nat.le_of_ble_eq_true rfl⟩) hP hD hS hA [0, 2] rfl (fun _ => rfl) ?_
  clear hP hD hS
  clear H locs
  intro v1 _u H locs hw hP hD hS
  subst hw
  refine lv_iadd hx hb dX12_ruleLine_7 ?_
  refine lv_topi (fun v2 ev2 => ?_)
  have rv2 : mm_rg v2 13 15 := mm_add ev2 mm_k12 h33 (by decide) (by decide)
  have tv2 := mm_addEd ev2 mm_k12 h33 (by decide) (k := 12) (by decide)
  refine lv_iconst (v := 1) hx hb dX12_ruleLine_8 (by decide) ?_
  refine lv_isub hx hb dX12_ruleLine_9 ?_
  refine lv_topi (fun v3 ev3 => ?_)
  have rv3 : mm_rg v3 12 14 := mm_sub ev3 rv2 mm_k1 (by decide) (by decide)
  have tv3 := mm_subEc ev3 rv2 mm_k1 (by decide) (k := (-1)) (by decide)
  refine lv_istore_n (lv' := [(1, .int v3), (0, .ref a_0)]) hx hb dX12_ruleLine_10 rfl hl (by decide) rfl ?_
  clear hl
  clear ls
  intro ls hl
  refine lv_bipush (v := 10) hx hb dX12_ruleLine_11 (by decide) ?_
  refine lv_bipush (v := 7) hx hb dX12_ruleLine_13 (by decide) ?_
  refine lv_iload_n hx hb dX12_ruleLine_15 rfl (lv_at hl 0 rfl) ?_
  refine lv_imul hx hb dX12_ruleLine_16 ?_
  refine lv_topi (fun v4 ev4 => ?_)
  have rv4 : mm_rg v4 84 98 := mm_mul ev4 mm_k7 rv3 (by decide) (by decide)
  have tv4 := mm_mulEc ev4 mm_k7 rv3 (by decide) (k := 7) (by decide)
  refine lv_aload_n hx hb dX12_ruleLine_17 rfl (lv_at hl 1 rfl) ?_
  refine va_get (D := G) (ci := 12) (v := .ref a_9) (C := RX12) (T := TX12) (N := 38) hx hb hts (mm_i inlX12) hown hK.1 hP 0 rfl rfl 19 (by decide) (mm_h hts mm_w151) (fun _ h9 => h9) rfl dX12_ruleLine_18 ?_
  refine lv_iload_n hx hb dX12_ruleLine_21 rfl (lv_at hl 0 rfl) ?_
  refine va_iald hx hb hK.1 hP 3 1 rfl rfl (mm_in rv3 (by decide)) dX12_ruleLine_22 ?_
  refine lv_topi (fun v5 ev5 => ?_)
  have rv5 : mm_rg v5 0 7 := mm_eqv ev5 (h36 _)
  have q6 : mm_rg v5 0 6 := mm_rq_ld h45 ev5 rv5 h33 (by have := tv3; have := tv2; omega) (by decide)
  refine lv_iadd hx hb dX12_ruleLine_23 ?_
  refine lv_topi (fun v7 ev7 => ?_)
  have rv7 : mm_rg v7 84 104 := mm_add ev7 rv4 q6 (by decide) (by decide)
  have tv7 := mm_addE ev7 rv4 q6 (by decide)
  refine lv_imul hx hb dX12_ruleLine_24 ?_
  refine lv_topi (fun v8 ev8 => ?_)
  have rv8 : mm_rg v8 840 1040 := mm_mul ev8 mm_k10 rv7 (by decide) (by decide)
  have tv8 := mm_mulEc ev8 mm_k10 rv7 (by decide) (k := 10) (by decide)
  refine lv_istore_n (lv' := [(2, .int v8), (1, .int v3), (0, .ref a_0)]) hx hb dX12_ruleLine_25 rfl hl (by decide) rfl ?_
  clear hl
  clear ls
  intro ls hl
  refine lv_aload_n hx hb dX12_ruleLine_26 rfl (lv_at hl 2 rfl) ?_
  refine lv_iconst (v := 2) hx hb dX12_ruleLine_27 (by decide) ?_
  refine mm_finir (va_runV (As := [.int 2]) (rest := []) ⟨hx, hb, hml, hown, hts⟩ (M37_X12_hasRead l G cy H.size a_0 i_0 a_1 a_2 a_3 a_4 a_5 i_1 i_2 i_3 i_4 i_5 j_0 i_6 i_7 i_8 i_9 a_6 a_7 a_8 a_9 a_10 a_11 a_12 a_13 a_14 a_15 a_16 a_17 a_18 i_10 i_11 i_12 i_13 i_14 i_15 a_19 i_16 a_20 i_17 i_18 i_19 i_20 i_21 i_22 i_23 i_24 i_25 i_26 i_27 i_28 i_29 i_30 i_31 i_32 i_33 i_34 i_35 i_36 i_37 i_38 i_39 i_40 i_41 i_42 i_43 i_44 i_45 i_46 h6 h7 h8 h9 h10 h11 h12 h13 h14 h15 h16 h17 h18 h19 h20 h21 h22 h23 h24 h25 h26 h27 h28 h29 h30 h31 h32 (mm_wk h33 (by decide)) h34 h35) (cwV 1 hts (mm_gV mm_w503 mm_w504 mm_w505 mm_w5 mm_w506) rfl rfl rfl hd_X12_hasRead ⟨by rw [hRf]; exact Nat.le_of_ble_eq_true rfl, by rw [hRl]; exact Nat.le_of_ble_eq_true rfl⟩) (mm_preV hK hZ hS hA hP hD [0, 2] rfl rfl 0 rfl rfl rfl) rfl rfl hl.1 rfl (lv_room (Nat.le_of_ble_eq_true rfl)) dX12_ruleLine_28 ⟨by rw [hRc]; exact Nat.le_of_ble_eq_true rfl, by rw [hRs]; exact Nat.le_of_ble_eq_true rfl⟩) hP hD hS hA [0, 2] rfl (fun _ => rfl) ?_
  clear hP hD hS
  clear H locs
  intro v9 _u H locs hw hP hD hS
  subst hw
  refine lv_iconst (v := 1) hx hb dX12_ruleLine_31 (by decide) ?_
  refine lv_iadd hx hb dX12_ruleLine_32 ?_
  refine lv_topi (fun v10 ev10 => ?_)
  have rv10 : mm_rg v10 1 10 := mm_add ev10 h32 mm_k1 (by decide) (by decide)
  have tv10 := mm_addEc ev10 h32 mm_k1 (by decide) (k := 1) (by decide)
  refine lv_istore_n (lv' := [(3, .int v10), (2, .int v8), (1, .int v3), (0, .ref a_0)]) hx hb dX12_ruleLine_33 rfl hl (by decide) rfl ?_
  clear hl
  clear ls
  intro ls hl
  refine lv_iconst (v := 0) hx hb dX12_ruleLine_34 (by decide) ?_
  refine lv_istore (lv' := [(4, .int 0), (3, .int v10), (2, .int v8), (1, .int v3), (0, .ref a_0)]) hx hb dX12_ruleLine_35 hl (by decide) rfl ?_
  clear hl
  clear ls
  intro ls hl
  have L37_75 : ∀ (n : Nat) (x37_4_71 : Int32) (z37_4_72 : Nat → Int32), mm_rg x37_4_71 0 10 → mm_ar z37_4_72 0 9 → mm_fr f_2 z37_4_72 840 → mm_ag f_2 z37_4_72 v8 → mm_idk z37_4_72 v8 x37_4_71 → (10 - x37_4_71.toInt).toNat < n → ∀ (H : Heap) (locs : List Loc), va_P G vwCl [(a_0, .inr (12, [.int i_0, .ref a_1, .ref a_2, .ref a_3, .ref a_4, .ref a_5, .int i_1, .int i_2, .int i_3, .int i_4, .int i_5, .long j_0, .int i_6, .int i_7, .int i_8, .int i_9, .ref a_6, .ref a_7, .ref a_8, .ref a_9, .ref a_10, .ref a_11, .ref a_12, .ref a_13, .ref a_14, .ref a_15, .ref a_16, .ref a_17, .ref a_18, .int i_10, .int i_11, .int i_12, .int i_13, .int i_14, .int i_15, .ref a_19, .int i_16, .ref a_20])), (a_5, .inl (cy 0, 600, .inl f_0)), (a_7, .inl (cy 1, 30, .inl (mm_g [i_17, i_18, i_19, i_20, i_21, i_22, i_23, i_24, i_25, i_26, i_27, i_28, i_29, i_30, i_31, i_32, i_33, i_34, i_35, i_36, i_37, i_38, i_39, i_40, i_41, i_42, i_43, i_44, i_45, i_46]))), (a_9, .inl (cy 1, 15, .inl f_1)), (a_10, .inl (cy 1, 1050, .inl z37_4_72))] H → va_D A [(a_0, .inr (12, [.int i_0, .ref a_1, .ref a_2, .ref a_3, .ref a_4, .ref a_5, .int i_1, .int i_2, .int i_3, .int i_4, .int i_5, .long j_0, .int i_6, .int i_7, .int i_8, .int i_9, .ref a_6, .ref a_7, .ref a_8, .ref a_9, .ref a_10, .ref a_11, .ref a_12, .ref a_13, .ref a_14, .ref a_15, .ref a_16, .ref a_17, .ref a_18, .int i_10, .int i_11, .int i_12, .int i_13, .int i_14, .int i_15, .ref a_19, .int i_16, .ref a_20])), (a_5, .inl (cy 0, 600, .inl f_0)), (a_7, .inl (cy 1, 30, .inl (mm_g [i_17, i_18, i_19, i_20, i_21, i_22, i_23, i_24, i_25, i_26, i_27, i_28, i_29, i_30, i_31, i_32, i_33, i_34, i_35, i_36, i_37, i_38, i_39, i_40, i_41, i_42, i_43, i_44, i_45, i_46]))), (a_9, .inl (cy 1, 15, .inl f_1)), (a_10, .inl (cy 1, 1050, .inl z37_4_72))] → va_S A s.heap H locs → ∀ (ls : Array Slot), lv_has ls 8 [(4, .int x37_4_71), (3, .int v10), (2, .int v8), (1, .int v3), (0, .ref a_0)] → W p l e R s m args below meth c H locs 0 0 Q (F0 m 37 ls []) := by
    intro n
    induction n with
    | zero => intro x37_4_71 z37_4_72 rx37_4_71 rz37_4_72 w73 w74 w75 hm; exact absurd hm (Nat.not_lt_zero _)
    | succ n ih37 =>
      intro x37_4_71 z37_4_72 rx37_4_71 rz37_4_72 w73 w74 w75 hm37 H locs hP hD hS ls hl
      refine lv_iload hx hb dX12_ruleLine_37 (lv_at hl 0 rfl) ?_
      refine lv_bipush (v := 10) hx hb dX12_ruleLine_39 (by decide) ?_
      refine lv_icmp_ge (tgt := 61) hx hb dX12_ruleLine_41 (by decide) (fun c77 => ?_) (fun c77 => ?_)
      · have q78 := mm_leR (mm_le c77) mm_k10 rx37_4_71
        refine lv_aload_n hx hb dX12_ruleLine_61 rfl (lv_at hl 4 rfl) ?_
        refine lv_ldc2 (v := 10261586) hx hb hown (mm_h hts mm_w528) dX12_ruleLine_62 ?_
        refine mm_finir (va_runV (As := [.long 10261586]) (rest := []) ⟨hx, hb, hml, hown, hts⟩ (M25_X12_is l G cy H.size a_0 10261586 i_0 a_1 a_2 a_3 a_4 a_5 i_1 i_2 i_3 i_4 i_5 j_0 i_6 i_7 i_8 i_9 a_6 a_7 a_8 a_9 a_10 a_11 a_12 a_13 a_14 a_15 a_16 a_17 a_18 i_10 i_11 i_12 i_13 i_14 i_15 a_19 i_16 a_20 h2 h4) (cwV 1 hts (mm_gV mm_w479 mm_w480 mm_w481 mm_w5 mm_w482) rfl rfl rfl hd_X12_is ⟨by rw [hRf]; exact Nat.le_of_ble_eq_true rfl, by rw [hRl]; exact Nat.le_of_ble_eq_true rfl⟩) (mm_preV hK hZ hS hA hP hD [0] rfl rfl 0 rfl rfl rfl) rfl rfl hl.1 rfl (lv_room (Nat.le_of_ble_eq_true rfl)) dX12_ruleLine_65 ⟨by rw [hRc]; exact Nat.le_of_ble_eq_true rfl, by rw [hRs]; exact Nat.le_of_ble_eq_true rfl⟩) hP hD hS hA [0] rfl (fun _ => rfl) ?_
        clear hP hD hS
        clear H locs
        intro v79 _u H locs hw hP hD hS
        rcases hw with rfl | rfl
        · refine lv_if_eq (tgt := 118) hx hb dX12_ruleLine_68 (by decide) (fun c80 => ?_) (fun c80 => ?_)
          · refine lv_aload_n hx hb dX12_ruleLine_118 rfl (lv_at hl 4 rfl) ?_
            refine lv_ldc2 (v := 390787) hx hb hown (mm_h hts mm_w529) dX12_ruleLine_119 ?_
            refine mm_finir (va_runV (As := [.long 390787]) (rest := []) ⟨hx, hb, hml, hown, hts⟩ (M25_X12_is l G cy H.size a_0 390787 i_0 a_1 a_2 a_3 a_4 a_5 i_1 i_2 i_3 i_4 i_5 j_0 i_6 i_7 i_8 i_9 a_6 a_7 a_8 a_9 a_10 a_11 a_12 a_13 a_14 a_15 a_16 a_17 a_18 i_10 i_11 i_12 i_13 i_14 i_15 a_19 i_16 a_20 h2 h4) (cwV 1 hts (mm_gV mm_w479 mm_w480 mm_w481 mm_w5 mm_w482) rfl rfl rfl hd_X12_is ⟨by rw [hRf]; exact Nat.le_of_ble_eq_true rfl, by rw [hRl]; exact Nat.le_of_ble_eq_true rfl⟩) (mm_preV hK hZ hS hA hP hD [0] rfl rfl 0 rfl rfl rfl) rfl rfl hl.1 rfl (lv_room (Nat.le_of_ble_eq_true rfl)) dX12_ruleLine_122 ⟨by rw [hRc]; exact Nat.le_of_ble_eq_true rfl, by rw [hRs]; exact Nat.le_of_ble_eq_true rfl⟩) hP hD hS hA [0] rfl (fun _ => rfl) ?_
            clear hP hD hS
            clear H locs
            intro v81 _u H locs hw hP hD hS
            rcases hw with rfl | rfl
            · refine lv_if_ne (tgt := 138) hx hb dX12_ruleLine_125 (by decide) (fun c82 => ?_) (fun c82 => ?_)
              · exact absurd rfl (mm_ne c82)
              · refine lv_aload_n hx hb dX12_ruleLine_128 rfl (lv_at hl 4 rfl) ?_
                refine lv_ldc2 (v := 409469) hx hb hown (mm_h hts mm_w530) dX12_ruleLine_129 ?_
                refine mm_finir (va_runV (As := [.long 409469]) (rest := []) ⟨hx, hb, hml, hown, hts⟩ (M25_X12_is l G cy H.size a_0 409469 i_0 a_1 a_2 a_3 a_4 a_5 i_1 i_2 i_3 i_4 i_5 j_0 i_6 i_7 i_8 i_9 a_6 a_7 a_8 a_9 a_10 a_11 a_12 a_13 a_14 a_15 a_16 a_17 a_18 i_10 i_11 i_12 i_13 i_14 i_15 a_19 i_16 a_20 h2 h4) (cwV 1 hts (mm_gV mm_w479 mm_w480 mm_w481 mm_w5 mm_w482) rfl rfl rfl hd_X12_is ⟨by rw [hRf]; exact Nat.le_of_ble_eq_true rfl, by rw [hRl]; exact Nat.le_of_ble_eq_true rfl⟩) (mm_preV hK hZ hS hA hP hD [0] rfl rfl 0 rfl rfl rfl) rfl rfl hl.1 rfl (lv_room (Nat.le_of_ble_eq_true rfl)) dX12_ruleLine_132 ⟨by rw [hRc]; exact Nat.le_of_ble_eq_true rfl, by rw [hRs]; exact Nat.le_of_ble_eq_true rfl⟩) hP hD hS hA [0] rfl (fun _ => rfl) ?_
                clear hP hD hS
                clear H locs
                intro v83 _u H locs hw hP hD hS
                rcases hw with rfl | rfl
                · refine lv_if_eq (tgt := 236) hx hb dX12_ruleLine_135 (by decide) (fun c84 => ?_) (fun c84 => ?_)
                  · refine lv_aload_n hx hb dX12_ruleLine_236 rfl (lv_at hl 4 rfl) ?_
                    refine lv_ldc2 (v := 358472) hx hb hown (mm_h hts mm_w531) dX12_ruleLine_237 ?_
                    refine mm_finv (va_runV (As := [.long 358472]) (rest := []) ⟨hx, hb, hml, hown, hts⟩ (M28_X12_asks l G cy H.size a_0 358472 i_0 a_1 a_2 a_3 a_4 a_5 i_1 i_2 i_3 i_4 i_5 j_0 i_6 i_7 i_8 i_9 a_6 a_7 a_8 a_9 a_10 a_11 a_12 a_13 a_14 a_15 a_16 a_17 a_18 i_10 i_11 i_12 i_13 i_14 i_15 a_19 i_16 a_20 f_0 h0 h1 h2 h3 h4 h5 h42 h43 h44) (cwV 1 hts (mm_gV mm_w471 mm_w472 mm_w473 mm_w5 mm_w474) rfl rfl rfl hd_X12_asks ⟨by rw [hRf]; exact Nat.le_of_ble_eq_true rfl, by rw [hRl]; exact Nat.le_of_ble_eq_true rfl⟩) (mm_preV hK hZ hS hA hP hD [0, 1] rfl rfl 0 rfl rfl rfl) rfl rfl hl.1 rfl (lv_room (Nat.le_of_ble_eq_true rfl)) dX12_ruleLine_240 ⟨by rw [hRc]; exact Nat.le_of_ble_eq_true rfl, by rw [hRs]; exact Nat.le_of_ble_eq_true rfl⟩) hP hD hS hA (fun u : Int32 × Int32 × Int32 × Int32 × Int64 × Int32 × Int32 => [(a_0, .inr (12, [.int i_0, .ref a_1, .ref a_2, .ref a_3, .ref a_4, .ref a_5, .int i_1, .int u.1, .int u.2.1, .int u.2.2.1, .int u.2.2.2.1, .long u.2.2.2.2.1, .int u.2.2.2.2.2.1, .int u.2.2.2.2.2.2, .int i_8, .int i_9, .ref a_6, .ref a_7, .ref a_8, .ref a_9, .ref a_10, .ref a_11, .ref a_12, .ref a_13, .ref a_14, .ref a_15, .ref a_16, .ref a_17, .ref a_18, .int i_10, .int i_11, .int i_12, .int i_13, .int i_14, .int i_15, .ref a_19, .int i_16, .ref a_20])), (a_5, .inl (cy 0, 600, .inl f_0)), (a_7, .inl (cy 1, 30, .inl (mm_g [i_17, i_18, i_19, i_20, i_21, i_22, i_23, i_24, i_25, i_26, i_27, i_28, i_29, i_30, i_31, i_32, i_33, i_34, i_35, i_36, i_37, i_38, i_39, i_40, i_41, i_42, i_43, i_44, i_45, i_46]))), (a_9, .inl (cy 1, 15, .inl f_1)), (a_10, .inl (cy 1, 1050, .inl z37_4_72))]) [0, 1] [2, 3, 4] (n := 5) (fun _ => rfl) (by decide +kernel) (by decide +kernel) rfl (fun _ => rfl) (wr := [(a_7, .inl (cy 1, 30, .inl (mm_g [i_17, i_18, i_19, i_20, i_21, i_22, i_23, i_24, i_25, i_26, i_27, i_28, i_29, i_30, i_31, i_32, i_33, i_34, i_35, i_36, i_37, i_38, i_39, i_40, i_41, i_42, i_43, i_44, i_45, i_46]))), (a_9, .inl (cy 1, 15, .inl f_1)), (a_10, .inl (cy 1, 1050, .inl z37_4_72))]) rfl (fun _ => rfl) (fun _ => rfl) ?_
                    clear hP hD hS
                    clear H locs
                    intro u
                    obtain ⟨n85, n86, n87, n88, n89, n90, n91⟩ := u
                    intro H locs hw (hP : va_P G vwCl [(a_0, .inr (12, [.int i_0, .ref a_1, .ref a_2, .ref a_3, .ref a_4, .ref a_5, .int i_1, .int n85, .int n86, .int n87, .int n88, .long n89, .int n90, .int n91, .int i_8, .int i_9, .ref a_6, .ref a_7, .ref a_8, .ref a_9, .ref a_10, .ref a_11, .ref a_12, .ref a_13, .ref a_14, .ref a_15, .ref a_16, .ref a_17, .ref a_18, .int i_10, .int i_11, .int i_12, .int i_13, .int i_14, .int i_15, .ref a_19, .int i_16, .ref a_20])), (a_5, .inl (cy 0, 600, .inl f_0)), (a_7, .inl (cy 1, 30, .inl (mm_g [i_17, i_18, i_19, i_20, i_21, i_22, i_23, i_24, i_25, i_26, i_27, i_28, i_29, i_30, i_31, i_32, i_33, i_34, i_35, i_36, i_37, i_38, i_39, i_40, i_41, i_42, i_43, i_44, i_45, i_46]))), (a_9, .inl (cy 1, 15, .inl f_1)), (a_10, .inl (cy 1, 1050, .inl z37_4_72))] H) (hD : va_D A [(a_0, .inr (12, [.int i_0, .ref a_1, .ref a_2, .ref a_3, .ref a_4, .ref a_5, .int i_1, .int n85, .int n86, .int n87, .int n88, .long n89, .int n90, .int n91, .int i_8, .int i_9, .ref a_6, .ref a_7, .ref a_8, .ref a_9, .ref a_10, .ref a_11, .ref a_12, .ref a_13, .ref a_14, .ref a_15, .ref a_16, .ref a_17, .ref a_18, .int i_10, .int i_11, .int i_12, .int i_13, .int i_14, .int i_15, .ref a_19, .int i_16, .ref a_20])), (a_5, .inl (cy 0, 600, .inl f_0)), (a_7, .inl (cy 1, 30, .inl (mm_g [i_17, i_18, i_19, i_20, i_21, i_22, i_23, i_24, i_25, i_26, i_27, i_28, i_29, i_30, i_31, i_32, i_33, i_34, i_35, i_36, i_37, i_38, i_39, i_40, i_41, i_42, i_43, i_44, i_45, i_46]))), (a_9, .inl (cy 1, 15, .inl f_1)), (a_10, .inl (cy 1, 1050, .inl z37_4_72))]) hS
                    obtain ⟨w92, w93, w94, w95, w96, w97, w98, w99⟩ := hw
                    replace w96 : (n87 : Int32).toInt ≤ (n85 : Int32).toInt := w96
                    replace w97 : (n85 : Int32).toInt ≤ (i_1 : Int32).toInt := w97
                    replace w98 : mm_tk n86 n87 n85 := w98
                    replace w99 : (i_4 : Int32).toInt ≤ (n87 : Int32).toInt := w99
                    refine lv_aload_n hx hb dX12_ruleLine_243 rfl (lv_at hl 4 rfl) ?_
                    refine va_get (D := G) (ci := 12) (v := .ref a_9) (C := RX12) (T := TX12) (N := 38) hx hb hts (mm_i inlX12) hown hK.1 hP 0 rfl rfl 19 (by decide) (mm_h hts mm_w151) (fun _ h9 => h9) rfl dX12_ruleLine_244 ?_
                    refine lv_iload_n hx hb dX12_ruleLine_247 rfl (lv_at hl 3 rfl) ?_
                    refine lv_dup2_11 hx hb dX12_ruleLine_248 rfl rfl ?_
                    refine va_iald hx hb hK.1 hP 3 1 rfl rfl (mm_in rv3 (by decide)) dX12_ruleLine_249 ?_
                    refine lv_topi (fun v100 ev100 => ?_)
                    have rv100 : mm_rg v100 0 7 := mm_eqv ev100 (h36 _)
                    have q101 : mm_rg v100 0 6 := mm_rq_ld h45 ev100 rv100 h33 (by have := tv3; have := tv2; omega) (by decide)
                    obtain rfl : v5 = v100 := ev5.trans ev100.symm
                    refine lv_iconst (v := 1) hx hb dX12_ruleLine_250 (by decide) ?_
                    refine lv_iadd hx hb dX12_ruleLine_251 ?_
                    refine lv_topi (fun v102 ev102 => ?_)
                    have rv102 : mm_rg v102 1 7 := mm_add ev102 q6 mm_k1 (by decide) (by decide)
                    have tv102 := mm_addEc ev102 q6 mm_k1 (by decide) (k := 1) (by decide)
                    refine va_iast hx hb hK.1 hP hD hS 3 1 rfl rfl (mm_in rv3 (by decide)) dX12_ruleLine_252 ?_
                    clear hP hD hS
                    clear H locs
                    obtain ⟨g103, eg103⟩ : ∃ z : Nat → Int32, z = upd f_1 v3.toNatClampNeg v102 := ⟨_, rfl⟩
                    rw [← eg103]
                    intro H locs (hP : va_P G vwCl [(a_0, .inr (12, [.int i_0, .ref a_1, .ref a_2, .ref a_3, .ref a_4, .ref a_5, .int i_1, .int n85, .int n86, .int n87, .int n88, .long n89, .int n90, .int n91, .int i_8, .int i_9, .ref a_6, .ref a_7, .ref a_8, .ref a_9, .ref a_10, .ref a_11, .ref a_12, .ref a_13, .ref a_14, .ref a_15, .ref a_16, .ref a_17, .ref a_18, .int i_10, .int i_11, .int i_12, .int i_13, .int i_14, .int i_15, .ref a_19, .int i_16, .ref a_20])), (a_5, .inl (cy 0, 600, .inl f_0)), (a_7, .inl (cy 1, 30, .inl (mm_g [i_17, i_18, i_19, i_20, i_21, i_22, i_23, i_24, i_25, i_26, i_27, i_28, i_29, i_30, i_31, i_32, i_33, i_34, i_35, i_36, i_37, i_38, i_39, i_40, i_41, i_42, i_43, i_44, i_45, i_46]))), (a_9, .inl (cy 1, 15, .inl g103)), (a_10, .inl (cy 1, 1050, .inl z37_4_72))] H) (hD : va_D A [(a_0, .inr (12, [.int i_0, .ref a_1, .ref a_2, .ref a_3, .ref a_4, .ref a_5, .int i_1, .int n85, .int n86, .int n87, .int n88, .long n89, .int n90, .int n91, .int i_8, .int i_9, .ref a_6, .ref a_7, .ref a_8, .ref a_9, .ref a_10, .ref a_11, .ref a_12, .ref a_13, .ref a_14, .ref a_15, .ref a_16, .ref a_17, .ref a_18, .int i_10, .int i_11, .int i_12, .int i_13, .int i_14, .int i_15, .ref a_19, .int i_16, .ref a_20])), (a_5, .inl (cy 0, 600, .inl f_0)), (a_7, .inl (cy 1, 30, .inl (mm_g [i_17, i_18, i_19, i_20, i_21, i_22, i_23, i_24, i_25, i_26, i_27, i_28, i_29, i_30, i_31, i_32, i_33, i_34, i_35, i_36, i_37, i_38, i_39, i_40, i_41, i_42, i_43, i_44, i_45, i_46]))), (a_9, .inl (cy 1, 15, .inl g103)), (a_10, .inl (cy 1, 1050, .inl z37_4_72))]) hS
                    have rg103 : mm_ar g103 0 7 := by rw [eg103]; exact mm_ar_upd (mm_ar_wk h36 (by decide)) (mm_wk rv102 (by decide)) _
                    have w104 : mm_rls g103 z37_4_72 0 i_19 i_20 := (mm_rls_fr h38 (mm_fr_u (mm_fr_r _ _) eg103 rv3 (by decide)) w73 (by decide))
                    have w105 : mm_rls g103 z37_4_72 1 i_25 i_26 := (mm_rls_fr h39 (mm_fr_u (mm_fr_r _ _) eg103 rv3 (by decide)) w73 (by decide))
                    have w106 : mm_rls g103 z37_4_72 2 i_31 i_32 := (mm_rls_fr h40 (mm_fr_u (mm_fr_r _ _) eg103 rv3 (by decide)) w73 (by decide))
                    have w107 : mm_rls g103 z37_4_72 3 i_37 i_38 := (mm_rls_fr h41 (mm_fr_u (mm_fr_r _ _) eg103 rv3 (by decide)) w73 (by decide))
                    have w108 : mm_rls g103 z37_4_72 4 i_43 i_44 := (mm_rls_rule h46 eg103 (by have := tv3; have := tv2; omega) ev5 tv102 (by have := tv8; have := tv7; have := tv4; omega) w74 (mm_pmr_id (mm_idk_w w75 q78 (by decide)) h32 rv8 (by decide)) h33 q6 (by decide))
                    have w109 : mm_fr f_1 g103 12 := (mm_fr_u (mm_fr_r _ _) eg103 rv3 (by decide))
                    subst hAe
                    rw [hQ]
                    exact W.vret hx hb hr (fun t ht hW => ⟨⟨(n85, n86, n87, n88, n89, n90, n91, g103, z37_4_72), rfl, ⟨w92, w93, w94, w95, rg103, rz37_4_72, w104, w105, w106, w107, w96, w97, w98, w99, w108, w109, w73⟩, by rw [ht]; exact hP, hK.warm hW, hD⟩, hS.F ht⟩) hS.2.2 dX12_ruleLine_253
                  · exact absurd rfl (mm_ne c84)
                · refine lv_if_eq (tgt := 236) hx hb dX12_ruleLine_135 (by decide) (fun c110 => ?_) (fun c110 => ?_)
                  · exact mm_eqN c110.symm mm_k0 mm_k1 (by decide)
                  · refine lv_aload_n hx hb dX12_ruleLine_138 rfl (lv_at hl 4 rfl) ?_
                    refine lv_ldc2 (v := 409469) hx hb hown (mm_h hts mm_w530) dX12_ruleLine_139 ?_
                    refine mm_finir (va_runV (As := [.long 409469]) (rest := []) ⟨hx, hb, hml, hown, hts⟩ (M25_X12_is l G cy H.size a_0 409469 i_0 a_1 a_2 a_3 a_4 a_5 i_1 i_2 i_3 i_4 i_5 j_0 i_6 i_7 i_8 i_9 a_6 a_7 a_8 a_9 a_10 a_11 a_12 a_13 a_14 a_15 a_16 a_17 a_18 i_10 i_11 i_12 i_13 i_14 i_15 a_19 i_16 a_20 h2 h4) (cwV 1 hts (mm_gV mm_w479 mm_w480 mm_w481 mm_w5 mm_w482) rfl rfl rfl hd_X12_is ⟨by rw [hRf]; exact Nat.le_of_ble_eq_true rfl, by rw [hRl]; exact Nat.le_of_ble_eq_true rfl⟩) (mm_preV hK hZ hS hA hP hD [0] rfl rfl 0 rfl rfl rfl) rfl rfl hl.1 rfl (lv_room (Nat.le_of_ble_eq_true rfl)) dX12_ruleLine_142 ⟨by rw [hRc]; exact Nat.le_of_ble_eq_true rfl, by rw [hRs]; exact Nat.le_of_ble_eq_true rfl⟩) hP hD hS hA [0] rfl (fun _ => rfl) ?_
                    clear hP hD hS
                    clear H locs
                    intro v111 _u H locs hw hP hD hS
                    rcases hw with rfl | rfl
                    · refine lv_istore (lv' := [(4, .int 0), (3, .int v10), (2, .int v8), (1, .int v3), (0, .ref a_0)]) hx hb dX12_ruleLine_145 hl (by decide) rfl ?_
                      clear hl
                      clear ls
                      intro ls hl
                      refine lv_aload_n hx hb dX12_ruleLine_147 rfl (lv_at hl 4 rfl) ?_
                      refine mm_finv (va_runV (As := []) (rest := []) ⟨hx, hb, hml, hown, hts⟩ (M22_X12_next l G cy H.size a_0 i_0 a_1 a_2 a_3 a_4 a_5 i_1 i_2 i_3 i_4 i_5 j_0 i_6 i_7 i_8 i_9 a_6 a_7 a_8 a_9 a_10 a_11 a_12 a_13 a_14 a_15 a_16 a_17 a_18 i_10 i_11 i_12 i_13 i_14 i_15 a_19 i_16 a_20 f_0 h0 h1 h2 h3 h5 h43) (cwV 0 hts (mm_gV mm_w451 mm_w452 mm_w453 mm_w5 mm_w454) rfl rfl rfl hd_X12_next ⟨by rw [hRf]; exact Nat.le_of_ble_eq_true rfl, by rw [hRl]; exact Nat.le_of_ble_eq_true rfl⟩) (mm_preV hK hZ hS hA hP hD [0, 1] rfl rfl 0 rfl rfl rfl) rfl rfl hl.1 rfl (lv_room (Nat.le_of_ble_eq_true rfl)) dX12_ruleLine_148 ⟨by rw [hRc]; exact Nat.le_of_ble_eq_true rfl, by rw [hRs]; exact Nat.le_of_ble_eq_true rfl⟩) hP hD hS hA (fun u : Int32 × Int32 × Int32 × Int32 × Int64 => [(a_0, .inr (12, [.int i_0, .ref a_1, .ref a_2, .ref a_3, .ref a_4, .ref a_5, .int i_1, .int u.1, .int u.2.1, .int u.2.2.1, .int u.2.2.2.1, .long u.2.2.2.2, .int i_6, .int i_7, .int i_8, .int i_9, .ref a_6, .ref a_7, .ref a_8, .ref a_9, .ref a_10, .ref a_11, .ref a_12, .ref a_13, .ref a_14, .ref a_15, .ref a_16, .ref a_17, .ref a_18, .int i_10, .int i_11, .int i_12, .int i_13, .int i_14, .int i_15, .ref a_19, .int i_16, .ref a_20])), (a_5, .inl (cy 0, 600, .inl f_0)), (a_7, .inl (cy 1, 30, .inl (mm_g [i_17, i_18, i_19, i_20, i_21, i_22, i_23, i_24, i_25, i_26, i_27, i_28, i_29, i_30, i_31, i_32, i_33, i_34, i_35, i_36, i_37, i_38, i_39, i_40, i_41, i_42, i_43, i_44, i_45, i_46]))), (a_9, .inl (cy 1, 15, .inl f_1)), (a_10, .inl (cy 1, 1050, .inl z37_4_72))]) [0, 1] [2, 3, 4] (n := 5) (fun _ => rfl) (by decide +kernel) (by decide +kernel) rfl (fun _ => rfl) (wr := [(a_7, .inl (cy 1, 30, .inl (mm_g [i_17, i_18, i_19, i_20, i_21, i_22, i_23, i_24, i_25, i_26, i_27, i_28, i_29, i_30, i_31, i_32, i_33, i_34, i_35, i_36, i_37, i_38, i_39, i_40, i_41, i_42, i_43, i_44, i_45, i_46]))), (a_9, .inl (cy 1, 15, .inl f_1)), (a_10, .inl (cy 1, 1050, .inl z37_4_72))]) rfl (fun _ => rfl) (fun _ => rfl) ?_
                      clear hP hD hS
                      clear H locs
                      intro u
                      obtain ⟨n112, n113, n114, n115, n116⟩ := u
                      intro H locs hw (hP : va_P G vwCl [(a_0, .inr (12, [.int i_0, .ref a_1, .ref a_2, .ref a_3, .ref a_4, .ref a_5, .int i_1, .int n112, .int n113, .int n114, .int n115, .long n116, .int i_6, .int i_7, .int i_8, .int i_9, .ref a_6, .ref a_7, .ref a_8, .ref a_9, .ref a_10, .ref a_11, .ref a_12, .ref a_13, .ref a_14, .ref a_15, .ref a_16, .ref a_17, .ref a_18, .int i_10, .int i_11, .int i_12, .int i_13, .int i_14, .int i_15, .ref a_19, .int i_16, .ref a_20])), (a_5, .inl (cy 0, 600, .inl f_0)), (a_7, .inl (cy 1, 30, .inl (mm_g [i_17, i_18, i_19, i_20, i_21, i_22, i_23, i_24, i_25, i_26, i_27, i_28, i_29, i_30, i_31, i_32, i_33, i_34, i_35, i_36, i_37, i_38, i_39, i_40, i_41, i_42, i_43, i_44, i_45, i_46]))), (a_9, .inl (cy 1, 15, .inl f_1)), (a_10, .inl (cy 1, 1050, .inl z37_4_72))] H) (hD : va_D A [(a_0, .inr (12, [.int i_0, .ref a_1, .ref a_2, .ref a_3, .ref a_4, .ref a_5, .int i_1, .int n112, .int n113, .int n114, .int n115, .long n116, .int i_6, .int i_7, .int i_8, .int i_9, .ref a_6, .ref a_7, .ref a_8, .ref a_9, .ref a_10, .ref a_11, .ref a_12, .ref a_13, .ref a_14, .ref a_15, .ref a_16, .ref a_17, .ref a_18, .int i_10, .int i_11, .int i_12, .int i_13, .int i_14, .int i_15, .ref a_19, .int i_16, .ref a_20])), (a_5, .inl (cy 0, 600, .inl f_0)), (a_7, .inl (cy 1, 30, .inl (mm_g [i_17, i_18, i_19, i_20, i_21, i_22, i_23, i_24, i_25, i_26, i_27, i_28, i_29, i_30, i_31, i_32, i_33, i_34, i_35, i_36, i_37, i_38, i_39, i_40, i_41, i_42, i_43, i_44, i_45, i_46]))), (a_9, .inl (cy 1, 15, .inl f_1)), (a_10, .inl (cy 1, 1050, .inl z37_4_72))]) hS
                      obtain ⟨w117, w118, w119, w120, w121, w122, w123⟩ := hw
                      replace w120 : (n114 : Int32).toInt ≤ (n112 : Int32).toInt := w120
                      replace w121 : (n112 : Int32).toInt ≤ (i_1 : Int32).toInt := w121
                      replace w122 : mm_tk n113 n114 n112 := w122
                      replace w123 : (i_2 : Int32).toInt ≤ (n114 : Int32).toInt := w123
                      refine lv_aload_n hx hb dX12_ruleLine_151 rfl (lv_at hl 4 rfl) ?_
                      refine mm_fini (va_runV (As := []) (rest := []) ⟨hx, hb, hml, hown, hts⟩ (M48_X12_wordHere l G cy H.size a_0 i_0 a_1 a_2 a_3 a_4 a_5 i_1 n112 n113 n114 n115 n116 i_6 i_7 i_8 i_9 a_6 a_7 a_8 a_9 a_10 a_11 a_12 a_13 a_14 a_15 a_16 a_17 a_18 i_10 i_11 i_12 i_13 i_14 i_15 a_19 i_16 a_20 f_0 i_17 i_18 i_19 i_20 i_21 i_22 i_23 i_24 i_25 i_26 i_27 i_28 i_29 i_30 i_31 i_32 i_33 i_34 i_35 i_36 i_37 i_38 i_39 i_40 i_41 i_42 i_43 i_44 i_45 i_46 h0 w117 w118 w119 h4 h5 h6 h7 h8 h9 h10 h11 h12 h13 h14 h15 h16 h17 h18 h19 h20 h21 h22 h23 h24 h25 h26 h27 h28 h29 h30 h31 h32 (mm_wk h33 (by decide)) h34 h35 w120 w121 w122) (cwV 0 hts (mm_gV mm_w532 mm_w533 mm_w534 mm_w5 mm_w535) rfl rfl rfl hd_X12_wordHere ⟨by rw [hRf]; exact Nat.le_of_ble_eq_true rfl, by rw [hRl]; exact Nat.le_of_ble_eq_true rfl⟩) (mm_preV hK hZ hS hA hP hD [0, 1, 2] rfl rfl 0 rfl rfl rfl) rfl rfl hl.1 rfl (lv_room (Nat.le_of_ble_eq_true rfl)) dX12_ruleLine_152 ⟨by rw [hRc]; exact Nat.le_of_ble_eq_true rfl, by rw [hRs]; exact Nat.le_of_ble_eq_true rfl⟩) hP hD hS hA (fun u : Int32 × Int32 × Int32 × Int32 × Int64 × Int32 × Int32 => [(a_0, .inr (12, [.int i_0, .ref a_1, .ref a_2, .ref a_3, .ref a_4, .ref a_5, .int i_1, .int u.1, .int u.2.1, .int u.2.2.1, .int u.2.2.2.1, .long u.2.2.2.2.1, .int u.2.2.2.2.2.1, .int u.2.2.2.2.2.2, .int i_8, .int i_9, .ref a_6, .ref a_7, .ref a_8, .ref a_9, .ref a_10, .ref a_11, .ref a_12, .ref a_13, .ref a_14, .ref a_15, .ref a_16, .ref a_17, .ref a_18, .int i_10, .int i_11, .int i_12, .int i_13, .int i_14, .int i_15, .ref a_19, .int i_16, .ref a_20])), (a_5, .inl (cy 0, 600, .inl f_0)), (a_7, .inl (cy 1, 30, .inl (mm_g [i_17, i_18, i_19, i_20, i_21, i_22, i_23, i_24, i_25, i_26, i_27, i_28, i_29, i_30, i_31, i_32, i_33, i_34, i_35, i_36, i_37, i_38, i_39, i_40, i_41, i_42, i_43, i_44, i_45, i_46]))), (a_9, .inl (cy 1, 15, .inl f_1)), (a_10, .inl (cy 1, 1050, .inl z37_4_72))]) [0, 1, 2] [3, 4] (n := 5) (fun _ => rfl) (by decide +kernel) (by decide +kernel) rfl (fun _ => rfl) (wr := [(a_9, .inl (cy 1, 15, .inl f_1)), (a_10, .inl (cy 1, 1050, .inl z37_4_72))]) rfl (fun _ => rfl) (fun _ => @rfl _ ([a_0, a_5, a_7] : List Nat)) ?_
                      clear hP hD hS
                      clear H locs
                      intro v131 u
                      obtain ⟨n124, n125, n126, n127, n128, n129, n130⟩ := u
                      intro H locs hw (hP : va_P G vwCl [(a_0, .inr (12, [.int i_0, .ref a_1, .ref a_2, .ref a_3, .ref a_4, .ref a_5, .int i_1, .int n124, .int n125, .int n126, .int n127, .long n128, .int n129, .int n130, .int i_8, .int i_9, .ref a_6, .ref a_7, .ref a_8, .ref a_9, .ref a_10, .ref a_11, .ref a_12, .ref a_13, .ref a_14, .ref a_15, .ref a_16, .ref a_17, .ref a_18, .int i_10, .int i_11, .int i_12, .int i_13, .int i_14, .int i_15, .ref a_19, .int i_16, .ref a_20])), (a_5, .inl (cy 0, 600, .inl f_0)), (a_7, .inl (cy 1, 30, .inl (mm_g [i_17, i_18, i_19, i_20, i_21, i_22, i_23, i_24, i_25, i_26, i_27, i_28, i_29, i_30, i_31, i_32, i_33, i_34, i_35, i_36, i_37, i_38, i_39, i_40, i_41, i_42, i_43, i_44, i_45, i_46]))), (a_9, .inl (cy 1, 15, .inl f_1)), (a_10, .inl (cy 1, 1050, .inl z37_4_72))] H) (hD : va_D A [(a_0, .inr (12, [.int i_0, .ref a_1, .ref a_2, .ref a_3, .ref a_4, .ref a_5, .int i_1, .int n124, .int n125, .int n126, .int n127, .long n128, .int n129, .int n130, .int i_8, .int i_9, .ref a_6, .ref a_7, .ref a_8, .ref a_9, .ref a_10, .ref a_11, .ref a_12, .ref a_13, .ref a_14, .ref a_15, .ref a_16, .ref a_17, .ref a_18, .int i_10, .int i_11, .int i_12, .int i_13, .int i_14, .int i_15, .ref a_19, .int i_16, .ref a_20])), (a_5, .inl (cy 0, 600, .inl f_0)), (a_7, .inl (cy 1, 30, .inl (mm_g [i_17, i_18, i_19, i_20, i_21, i_22, i_23, i_24, i_25, i_26, i_27, i_28, i_29, i_30, i_31, i_32, i_33, i_34, i_35, i_36, i_37, i_38, i_39, i_40, i_41, i_42, i_43, i_44, i_45, i_46]))), (a_9, .inl (cy 1, 15, .inl f_1)), (a_10, .inl (cy 1, 1050, .inl z37_4_72))]) hS
                      obtain ⟨w132, w133, w134, w135, w136, w137, w138, w139, w140, hw⟩ := hw
                      replace w136 : (n126 : Int32).toInt ≤ (n124 : Int32).toInt := w136
                      replace w137 : (n124 : Int32).toInt ≤ (i_1 : Int32).toInt := w137
                      replace w138 : mm_tk n125 n126 n124 := w138
                      replace w139 : (n114 : Int32).toInt ≤ (n126 : Int32).toInt := w139
                      replace w140 : mm_b0 i_6 n129 := w140
                      obtain ⟨w141, w142, w143⟩ := hw
                      replace w142 : (v131 : Int32).toInt ≤ (i_43 : Int32).toInt := w142
                      replace w143 : mm_nv n129 v131 n113 n115 := w143
                      refine lv_istore (lv' := [(5, .int v131), (4, .int 0), (3, .int v10), (2, .int v8), (1, .int v3), (0, .ref a_0)]) hx hb dX12_ruleLine_155 hl (by decide) rfl ?_
                      clear hl
                      clear ls
                      intro ls hl
                      refine lv_aload_n hx hb dX12_ruleLine_157 rfl (lv_at hl 5 rfl) ?_
                      refine lv_iload hx hb dX12_ruleLine_158 (lv_at hl 0 rfl) ?_
                      refine lv_iload hx hb dX12_ruleLine_160 (lv_at hl 0 rfl) ?_
                      refine mm_fini (va_runV (As := [.int v131, .int v131]) (rest := []) ⟨hx, hb, hml, hown, hts⟩ (M62_X12_otherWord l G cy H.size a_0 v131 v131 i_0 a_1 a_2 a_3 a_4 a_5 i_1 n124 n125 n126 n127 n128 n129 n130 i_8 i_9 a_6 a_7 a_8 a_9 a_10 a_11 a_12 a_13 a_14 a_15 a_16 a_17 a_18 i_10 i_11 i_12 i_13 i_14 i_15 a_19 i_16 a_20 f_0 i_17 i_18 i_19 i_20 i_21 i_22 i_23 i_24 i_25 i_26 i_27 i_28 i_29 i_30 i_31 i_32 i_33 i_34 i_35 i_36 i_37 i_38 i_39 i_40 i_41 i_42 i_43 i_44 i_45 i_46 w141 w141 h0 w132 w133 w134 w135 h5 h6 h7 h8 h9 h10 h11 h12 h13 h14 h15 h16 h17 h18 h19 h20 h21 h22 h23 h24 h25 h26 h27 h28 h29 h30 h31 h32 (mm_wk h33 (by decide)) h34 h35 w136 w137 w138) (cwV 2 hts (mm_gV mm_w536 mm_w537 mm_w538 mm_w5 mm_w539) rfl rfl rfl hd_X12_otherWord ⟨by rw [hRf]; exact Nat.le_of_ble_eq_true rfl, by rw [hRl]; exact Nat.le_of_ble_eq_true rfl⟩) (mm_preV hK hZ hS hA hP hD [0, 1, 2] rfl rfl 0 rfl rfl rfl) rfl rfl hl.1 rfl (lv_room (Nat.le_of_ble_eq_true rfl)) dX12_ruleLine_162 ⟨by rw [hRc]; exact Nat.le_of_ble_eq_true rfl, by rw [hRs]; exact Nat.le_of_ble_eq_true rfl⟩) hP hD hS hA (fun u : Int32 × Int32 × Int32 × Int32 × Int64 × Int32 × Int32 => [(a_0, .inr (12, [.int i_0, .ref a_1, .ref a_2, .ref a_3, .ref a_4, .ref a_5, .int i_1, .int u.1, .int u.2.1, .int u.2.2.1, .int u.2.2.2.1, .long u.2.2.2.2.1, .int u.2.2.2.2.2.1, .int u.2.2.2.2.2.2, .int i_8, .int i_9, .ref a_6, .ref a_7, .ref a_8, .ref a_9, .ref a_10, .ref a_11, .ref a_12, .ref a_13, .ref a_14, .ref a_15, .ref a_16, .ref a_17, .ref a_18, .int i_10, .int i_11, .int i_12, .int i_13, .int i_14, .int i_15, .ref a_19, .int i_16, .ref a_20])), (a_5, .inl (cy 0, 600, .inl f_0)), (a_7, .inl (cy 1, 30, .inl (mm_g [i_17, i_18, i_19, i_20, i_21, i_22, i_23, i_24, i_25, i_26, i_27, i_28, i_29, i_30, i_31, i_32, i_33, i_34, i_35, i_36, i_37, i_38, i_39, i_40, i_41, i_42, i_43, i_44, i_45, i_46]))), (a_9, .inl (cy 1, 15, .inl f_1)), (a_10, .inl (cy 1, 1050, .inl z37_4_72))]) [0, 1, 2] [3, 4] (n := 5) (fun _ => rfl) (by decide +kernel) (by decide +kernel) rfl (fun _ => rfl) (wr := [(a_9, .inl (cy 1, 15, .inl f_1)), (a_10, .inl (cy 1, 1050, .inl z37_4_72))]) rfl (fun _ => rfl) (fun _ => @rfl _ ([a_0, a_5, a_7] : List Nat)) ?_
                      clear hP hD hS
                      clear H locs
                      intro v151 u
                      obtain ⟨n144, n145, n146, n147, n148, n149, n150⟩ := u
                      intro H locs hw (hP : va_P G vwCl [(a_0, .inr (12, [.int i_0, .ref a_1, .ref a_2, .ref a_3, .ref a_4, .ref a_5, .int i_1, .int n144, .int n145, .int n146, .int n147, .long n148, .int n149, .int n150, .int i_8, .int i_9, .ref a_6, .ref a_7, .ref a_8, .ref a_9, .ref a_10, .ref a_11, .ref a_12, .ref a_13, .ref a_14, .ref a_15, .ref a_16, .ref a_17, .ref a_18, .int i_10, .int i_11, .int i_12, .int i_13, .int i_14, .int i_15, .ref a_19, .int i_16, .ref a_20])), (a_5, .inl (cy 0, 600, .inl f_0)), (a_7, .inl (cy 1, 30, .inl (mm_g [i_17, i_18, i_19, i_20, i_21, i_22, i_23, i_24, i_25, i_26, i_27, i_28, i_29, i_30, i_31, i_32, i_33, i_34, i_35, i_36, i_37, i_38, i_39, i_40, i_41, i_42, i_43, i_44, i_45, i_46]))), (a_9, .inl (cy 1, 15, .inl f_1)), (a_10, .inl (cy 1, 1050, .inl z37_4_72))] H) (hD : va_D A [(a_0, .inr (12, [.int i_0, .ref a_1, .ref a_2, .ref a_3, .ref a_4, .ref a_5, .int i_1, .int n144, .int n145, .int n146, .int n147, .long n148, .int n149, .int n150, .int i_8, .int i_9, .ref a_6, .ref a_7, .ref a_8, .ref a_9, .ref a_10, .ref a_11, .ref a_12, .ref a_13, .ref a_14, .ref a_15, .ref a_16, .ref a_17, .ref a_18, .int i_10, .int i_11, .int i_12, .int i_13, .int i_14, .int i_15, .ref a_19, .int i_16, .ref a_20])), (a_5, .inl (cy 0, 600, .inl f_0)), (a_7, .inl (cy 1, 30, .inl (mm_g [i_17, i_18, i_19, i_20, i_21, i_22, i_23, i_24, i_25, i_26, i_27, i_28, i_29, i_30, i_31, i_32, i_33, i_34, i_35, i_36, i_37, i_38, i_39, i_40, i_41, i_42, i_43, i_44, i_45, i_46]))), (a_9, .inl (cy 1, 15, .inl f_1)), (a_10, .inl (cy 1, 1050, .inl z37_4_72))]) hS
                      obtain ⟨w152, w153, w154, w155, w156, w157, w158, w159, w160, hw⟩ := hw
                      replace w156 : (n146 : Int32).toInt ≤ (n144 : Int32).toInt := w156
                      replace w157 : (n144 : Int32).toInt ≤ (i_1 : Int32).toInt := w157
                      replace w158 : mm_tk n145 n146 n144 := w158
                      replace w159 : (n126 : Int32).toInt ≤ (n146 : Int32).toInt := w159
                      replace w160 : mm_b0 n129 n149 := w160
                      obtain ⟨w161, w162, w163, w164⟩ := hw
                      replace w162 : (v151 : Int32).toInt ≤ (i_43 : Int32).toInt := w162
                      replace w163 : mm_nq n149 v151 v131 := w163
                      replace w164 : mm_nq n149 v151 v131 := w164
                      refine lv_istore (lv' := [(6, .int v151), (5, .int v131), (4, .int 0), (3, .int v10), (2, .int v8), (1, .int v3), (0, .ref a_0)]) hx hb dX12_ruleLine_165 hl (by decide) rfl ?_
                      clear hl
                      clear ls
                      intro ls hl
                      refine lv_iload hx hb dX12_ruleLine_167 (lv_at hl 2 rfl) ?_
                      refine lv_if_eq (tgt := 183) hx hb dX12_ruleLine_169 (by decide) (fun c165 => ?_) (fun c165 => ?_)
                      · refine lv_iload hx hb dX12_ruleLine_183 (lv_at hl 1 rfl) ?_
                        refine lv_istore (lv' := [(7, .int v131), (6, .int v151), (5, .int v131), (4, .int 0), (3, .int v10), (2, .int v8), (1, .int v3), (0, .ref a_0)]) hx hb dX12_ruleLine_185 hl (by decide) rfl ?_
                        clear hl
                        clear ls
                        intro ls hl
                        refine lv_aload_n hx hb dX12_ruleLine_187 rfl (lv_at hl 7 rfl) ?_
                        refine va_get (D := G) (ci := 12) (v := .int n149) (C := RX12) (T := TX12) (N := 38) hx hb hts (mm_i inlX12) hown hK.1 hP 0 rfl rfl 12 (by decide) (mm_h hts mm_w436) (fun _ h9 => h9) rfl dX12_ruleLine_188 ?_
                        refine lv_if_eq (tgt := 195) hx hb dX12_ruleLine_191 (by decide) (fun c166 => ?_) (fun c166 => ?_)
                        · have q167 := mm_eqI (lo := 0) (hi := 0) c166 w155 mm_k0 (by decide)
                          have q168 : mm_rg n129 0 0 := mm_b0_d w160 q167 (by decide)
                          have q169 : mm_rg i_6 0 0 := mm_b0_d w140 q168 (by decide)
                          refine lv_aload_n hx hb dX12_ruleLine_195 rfl (lv_at hl 7 rfl) ?_
                          refine va_get (D := G) (ci := 12) (v := .ref a_10) (C := RX12) (T := TX12) (N := 38) hx hb hts (mm_i inlX12) hown hK.1 hP 0 rfl rfl 20 (by decide) (mm_h hts mm_w152) (fun _ h9 => h9) rfl dX12_ruleLine_196 ?_
                          refine lv_iload_n hx hb dX12_ruleLine_199 rfl (lv_at hl 5 rfl) ?_
                          refine lv_iload hx hb dX12_ruleLine_200 (lv_at hl 2 rfl) ?_
                          refine lv_iadd hx hb dX12_ruleLine_202 ?_
                          refine lv_topi (fun v170 ev170 => ?_)
                          have rv170 : mm_rg v170 840 1049 := mm_add ev170 rv8 w141 (by decide) (by decide)
                          have tv170 := mm_addE ev170 rv8 w141 (by decide)
                          refine lv_iload hx hb dX12_ruleLine_203 (lv_at hl 1 rfl) ?_
                          refine va_iast hx hb hK.1 hP hD hS 4 1 rfl rfl (mm_in rv170 (by decide)) dX12_ruleLine_205 ?_
                          clear hP hD hS
                          clear H locs
                          obtain ⟨g171, eg171⟩ : ∃ z : Nat → Int32, z = upd z37_4_72 v170.toNatClampNeg v151 := ⟨_, rfl⟩
                          rw [← eg171]
                          intro H locs (hP : va_P G vwCl [(a_0, .inr (12, [.int i_0, .ref a_1, .ref a_2, .ref a_3, .ref a_4, .ref a_5, .int i_1, .int n144, .int n145, .int n146, .int n147, .long n148, .int n149, .int n150, .int i_8, .int i_9, .ref a_6, .ref a_7, .ref a_8, .ref a_9, .ref a_10, .ref a_11, .ref a_12, .ref a_13, .ref a_14, .ref a_15, .ref a_16, .ref a_17, .ref a_18, .int i_10, .int i_11, .int i_12, .int i_13, .int i_14, .int i_15, .ref a_19, .int i_16, .ref a_20])), (a_5, .inl (cy 0, 600, .inl f_0)), (a_7, .inl (cy 1, 30, .inl (mm_g [i_17, i_18, i_19, i_20, i_21, i_22, i_23, i_24, i_25, i_26, i_27, i_28, i_29, i_30, i_31, i_32, i_33, i_34, i_35, i_36, i_37, i_38, i_39, i_40, i_41, i_42, i_43, i_44, i_45, i_46]))), (a_9, .inl (cy 1, 15, .inl f_1)), (a_10, .inl (cy 1, 1050, .inl g171))] H) (hD : va_D A [(a_0, .inr (12, [.int i_0, .ref a_1, .ref a_2, .ref a_3, .ref a_4, .ref a_5, .int i_1, .int n144, .int n145, .int n146, .int n147, .long n148, .int n149, .int n150, .int i_8, .int i_9, .ref a_6, .ref a_7, .ref a_8, .ref a_9, .ref a_10, .ref a_11, .ref a_12, .ref a_13, .ref a_14, .ref a_15, .ref a_16, .ref a_17, .ref a_18, .int i_10, .int i_11, .int i_12, .int i_13, .int i_14, .int i_15, .ref a_19, .int i_16, .ref a_20])), (a_5, .inl (cy 0, 600, .inl f_0)), (a_7, .inl (cy 1, 30, .inl (mm_g [i_17, i_18, i_19, i_20, i_21, i_22, i_23, i_24, i_25, i_26, i_27, i_28, i_29, i_30, i_31, i_32, i_33, i_34, i_35, i_36, i_37, i_38, i_39, i_40, i_41, i_42, i_43, i_44, i_45, i_46]))), (a_9, .inl (cy 1, 15, .inl f_1)), (a_10, .inl (cy 1, 1050, .inl g171))]) hS
                          have rg171 : mm_ar g171 0 9 := by rw [eg171]; exact mm_ar_upd (mm_ar_wk rz37_4_72 (by decide)) (mm_wk w161 (by decide)) _
                          refine lv_aload_n hx hb dX12_ruleLine_206 rfl (lv_at hl 7 rfl) ?_
                          refine va_get (D := G) (ci := 12) (v := .ref a_10) (C := RX12) (T := TX12) (N := 38) hx hb hts (mm_i inlX12) hown hK.1 hP 0 rfl rfl 20 (by decide) (mm_h hts mm_w152) (fun _ h9 => h9) rfl dX12_ruleLine_207 ?_
                          refine lv_iload_n hx hb dX12_ruleLine_210 rfl (lv_at hl 5 rfl) ?_
                          refine lv_iload hx hb dX12_ruleLine_211 (lv_at hl 1 rfl) ?_
                          refine lv_iadd hx hb dX12_ruleLine_213 ?_
                          refine lv_topi (fun v172 ev172 => ?_)
                          have rv172 : mm_rg v172 840 1049 := mm_add ev172 rv8 w161 (by decide) (by decide)
                          have tv172 := mm_addE ev172 rv8 w161 (by decide)
                          refine lv_iload hx hb dX12_ruleLine_214 (lv_at hl 0 rfl) ?_
                          refine va_iast hx hb hK.1 hP hD hS 4 1 rfl rfl (mm_in rv172 (by decide)) dX12_ruleLine_216 ?_
                          clear hP hD hS
                          clear H locs
                          obtain ⟨g173, eg173⟩ : ∃ z : Nat → Int32, z = upd g171 v172.toNatClampNeg v131 := ⟨_, rfl⟩
                          rw [← eg173]
                          intro H locs (hP : va_P G vwCl [(a_0, .inr (12, [.int i_0, .ref a_1, .ref a_2, .ref a_3, .ref a_4, .ref a_5, .int i_1, .int n144, .int n145, .int n146, .int n147, .long n148, .int n149, .int n150, .int i_8, .int i_9, .ref a_6, .ref a_7, .ref a_8, .ref a_9, .ref a_10, .ref a_11, .ref a_12, .ref a_13, .ref a_14, .ref a_15, .ref a_16, .ref a_17, .ref a_18, .int i_10, .int i_11, .int i_12, .int i_13, .int i_14, .int i_15, .ref a_19, .int i_16, .ref a_20])), (a_5, .inl (cy 0, 600, .inl f_0)), (a_7, .inl (cy 1, 30, .inl (mm_g [i_17, i_18, i_19, i_20, i_21, i_22, i_23, i_24, i_25, i_26, i_27, i_28, i_29, i_30, i_31, i_32, i_33, i_34, i_35, i_36, i_37, i_38, i_39, i_40, i_41, i_42, i_43, i_44, i_45, i_46]))), (a_9, .inl (cy 1, 15, .inl f_1)), (a_10, .inl (cy 1, 1050, .inl g173))] H) (hD : va_D A [(a_0, .inr (12, [.int i_0, .ref a_1, .ref a_2, .ref a_3, .ref a_4, .ref a_5, .int i_1, .int n144, .int n145, .int n146, .int n147, .long n148, .int n149, .int n150, .int i_8, .int i_9, .ref a_6, .ref a_7, .ref a_8, .ref a_9, .ref a_10, .ref a_11, .ref a_12, .ref a_13, .ref a_14, .ref a_15, .ref a_16, .ref a_17, .ref a_18, .int i_10, .int i_11, .int i_12, .int i_13, .int i_14, .int i_15, .ref a_19, .int i_16, .ref a_20])), (a_5, .inl (cy 0, 600, .inl f_0)), (a_7, .inl (cy 1, 30, .inl (mm_g [i_17, i_18, i_19, i_20, i_21, i_22, i_23, i_24, i_25, i_26, i_27, i_28, i_29, i_30, i_31, i_32, i_33, i_34, i_35, i_36, i_37, i_38, i_39, i_40, i_41, i_42, i_43, i_44, i_45, i_46]))), (a_9, .inl (cy 1, 15, .inl f_1)), (a_10, .inl (cy 1, 1050, .inl g173))]) hS
                          have rg173 : mm_ar g173 0 9 := by rw [eg173]; exact mm_ar_upd (mm_ar_wk rg171 (by decide)) (mm_wk w141 (by decide)) _
                          refine lv_iload hx hb dX12_ruleLine_217 (lv_at hl 3 rfl) ?_
                          refine lv_if_eq (tgt := 233) hx hb dX12_ruleLine_219 (by decide) (fun c174 => ?_) (fun c174 => ?_)
                          · refine lv_goto (tgt := 243) hx hb dX12_ruleLine_233 (by decide) ?_
                            refine lv_aload_n hx hb dX12_ruleLine_243 rfl (lv_at hl 7 rfl) ?_
                            refine va_get (D := G) (ci := 12) (v := .ref a_9) (C := RX12) (T := TX12) (N := 38) hx hb hts (mm_i inlX12) hown hK.1 hP 0 rfl rfl 19 (by decide) (mm_h hts mm_w151) (fun _ h9 => h9) rfl dX12_ruleLine_244 ?_
                            refine lv_iload_n hx hb dX12_ruleLine_247 rfl (lv_at hl 6 rfl) ?_
                            refine lv_dup2_11 hx hb dX12_ruleLine_248 rfl rfl ?_
                            refine va_iald hx hb hK.1 hP 3 1 rfl rfl (mm_in rv3 (by decide)) dX12_ruleLine_249 ?_
                            refine lv_topi (fun v175 ev175 => ?_)
                            have rv175 : mm_rg v175 0 7 := mm_eqv ev175 (h36 _)
                            have q176 : mm_rg v175 0 6 := mm_rq_ld h45 ev175 rv175 h33 (by have := tv3; have := tv2; omega) (by decide)
                            obtain rfl : v5 = v175 := ev5.trans ev175.symm
                            refine lv_iconst (v := 1) hx hb dX12_ruleLine_250 (by decide) ?_
                            refine lv_iadd hx hb dX12_ruleLine_251 ?_
                            refine lv_topi (fun v177 ev177 => ?_)
                            have rv177 : mm_rg v177 1 7 := mm_add ev177 q6 mm_k1 (by decide) (by decide)
                            have tv177 := mm_addEc ev177 q6 mm_k1 (by decide) (k := 1) (by decide)
                            refine va_iast hx hb hK.1 hP hD hS 3 1 rfl rfl (mm_in rv3 (by decide)) dX12_ruleLine_252 ?_
                            clear hP hD hS
                            clear H locs
                            obtain ⟨g178, eg178⟩ : ∃ z : Nat → Int32, z = upd f_1 v3.toNatClampNeg v177 := ⟨_, rfl⟩
                            rw [← eg178]
                            intro H locs (hP : va_P G vwCl [(a_0, .inr (12, [.int i_0, .ref a_1, .ref a_2, .ref a_3, .ref a_4, .ref a_5, .int i_1, .int n144, .int n145, .int n146, .int n147, .long n148, .int n149, .int n150, .int i_8, .int i_9, .ref a_6, .ref a_7, .ref a_8, .ref a_9, .ref a_10, .ref a_11, .ref a_12, .ref a_13, .ref a_14, .ref a_15, .ref a_16, .ref a_17, .ref a_18, .int i_10, .int i_11, .int i_12, .int i_13, .int i_14, .int i_15, .ref a_19, .int i_16, .ref a_20])), (a_5, .inl (cy 0, 600, .inl f_0)), (a_7, .inl (cy 1, 30, .inl (mm_g [i_17, i_18, i_19, i_20, i_21, i_22, i_23, i_24, i_25, i_26, i_27, i_28, i_29, i_30, i_31, i_32, i_33, i_34, i_35, i_36, i_37, i_38, i_39, i_40, i_41, i_42, i_43, i_44, i_45, i_46]))), (a_9, .inl (cy 1, 15, .inl g178)), (a_10, .inl (cy 1, 1050, .inl g173))] H) (hD : va_D A [(a_0, .inr (12, [.int i_0, .ref a_1, .ref a_2, .ref a_3, .ref a_4, .ref a_5, .int i_1, .int n144, .int n145, .int n146, .int n147, .long n148, .int n149, .int n150, .int i_8, .int i_9, .ref a_6, .ref a_7, .ref a_8, .ref a_9, .ref a_10, .ref a_11, .ref a_12, .ref a_13, .ref a_14, .ref a_15, .ref a_16, .ref a_17, .ref a_18, .int i_10, .int i_11, .int i_12, .int i_13, .int i_14, .int i_15, .ref a_19, .int i_16, .ref a_20])), (a_5, .inl (cy 0, 600, .inl f_0)), (a_7, .inl (cy 1, 30, .inl (mm_g [i_17, i_18, i_19, i_20, i_21, i_22, i_23, i_24, i_25, i_26, i_27, i_28, i_29, i_30, i_31, i_32, i_33, i_34, i_35, i_36, i_37, i_38, i_39, i_40, i_41, i_42, i_43, i_44, i_45, i_46]))), (a_9, .inl (cy 1, 15, .inl g178)), (a_10, .inl (cy 1, 1050, .inl g173))]) hS
                            have rg178 : mm_ar g178 0 7 := by rw [eg178]; exact mm_ar_upd (mm_ar_wk h36 (by decide)) (mm_wk rv177 (by decide)) _
                            have w179 : mm_rls g178 g173 0 i_19 i_20 := (mm_rls_fr h38 (mm_fr_u (mm_fr_r _ _) eg178 rv3 (by decide)) (mm_fr_u (mm_fr_u w73 eg171 rv170 (by decide)) eg173 rv172 (by decide)) (by decide))
                            have w180 : mm_rls g178 g173 1 i_25 i_26 := (mm_rls_fr h39 (mm_fr_u (mm_fr_r _ _) eg178 rv3 (by decide)) (mm_fr_u (mm_fr_u w73 eg171 rv170 (by decide)) eg173 rv172 (by decide)) (by decide))
                            have w181 : mm_rls g178 g173 2 i_31 i_32 := (mm_rls_fr h40 (mm_fr_u (mm_fr_r _ _) eg178 rv3 (by decide)) (mm_fr_u (mm_fr_u w73 eg171 rv170 (by decide)) eg173 rv172 (by decide)) (by decide))
                            have w182 : mm_rls g178 g173 3 i_37 i_38 := (mm_rls_fr h41 (mm_fr_u (mm_fr_r _ _) eg178 rv3 (by decide)) (mm_fr_u (mm_fr_u w73 eg171 rv170 (by decide)) eg173 rv172 (by decide)) (by decide))
                            have w183 : (i_4 : Int32).toInt ≤ (n146 : Int32).toInt := (by have := h42; have := w123; have := w139; have := w159; omega)
                            have w184 : mm_rls g178 g173 4 i_43 i_44 := (mm_rls_rule h46 eg178 (by have := tv3; have := tv2; omega) ev5 tv177 (by have := tv8; have := tv7; have := tv4; omega) (mm_ag_u (mm_ag_u w74 eg171 tv170 w141 rv8 (by decide)) eg173 tv172 w161 rv8 (by decide)) (mm_pmr_sw (mm_idk_w w75 q78 (by decide)) eg171 tv170 eg173 tv172 w142 w162 (mm_nq_ne w163 q167 (by decide)) h32 rv8 w141 w161 (by decide)) h33 q6 (by decide))
                            have w185 : mm_fr f_1 g178 12 := (mm_fr_u (mm_fr_r _ _) eg178 rv3 (by decide))
                            have w186 : mm_fr f_2 g173 840 := (mm_fr_u (mm_fr_u w73 eg171 rv170 (by decide)) eg173 rv172 (by decide))
                            subst hAe
                            rw [hQ]
                            exact W.vret hx hb hr (fun t ht hW => ⟨⟨(n144, n145, n146, n147, n148, n149, n150, g178, g173), rfl, ⟨w152, w153, w154, (mm_wk q167 (by decide)), rg178, rg173, w179, w180, w181, w182, w156, w157, w158, w183, w184, w185, w186⟩, by rw [ht]; exact hP, hK.warm hW, hD⟩, hS.F ht⟩) hS.2.2 dX12_ruleLine_253
                          · exact absurd rfl (mm_ne c174)
                        · have q187 := mm_neL (lo := 1) (mm_ne c166) w155 mm_k0 (by decide) (by decide)
                          have w188 : mm_rls f_1 z37_4_72 0 i_19 i_20 := (mm_rls_fr h38 (mm_fr_r _ _) w73 (by decide))
                          have w189 : mm_rls f_1 z37_4_72 1 i_25 i_26 := (mm_rls_fr h39 (mm_fr_r _ _) w73 (by decide))
                          have w190 : mm_rls f_1 z37_4_72 2 i_31 i_32 := (mm_rls_fr h40 (mm_fr_r _ _) w73 (by decide))
                          have w191 : mm_rls f_1 z37_4_72 3 i_37 i_38 := (mm_rls_fr h41 (mm_fr_r _ _) w73 (by decide))
                          have w192 : (i_4 : Int32).toInt ≤ (n146 : Int32).toInt := (by have := h42; have := w123; have := w139; have := w159; omega)
                          have w193 : mm_rls f_1 z37_4_72 4 i_43 i_44 := (mm_rls_beg h46 (by have := tv3; have := tv2; omega) ev5 (by have := tv8; have := tv7; have := tv4; omega) w74 h33 q6 (by decide))
                          have w194 : mm_fr f_1 f_1 12 := (mm_fr_r _ _)
                          subst hAe
                          rw [hQ]
                          exact W.vret hx hb hr (fun t ht hW => ⟨⟨(n144, n145, n146, n147, n148, n149, n150, f_1, z37_4_72), rfl, ⟨w152, w153, w154, (mm_wk q187 (by decide)), h36, rz37_4_72, w188, w189, w190, w191, w156, w157, w158, w192, w193, w194, w73⟩, by rw [ht]; exact hP, hK.warm hW, hD⟩, hS.F ht⟩) hS.2.2 dX12_ruleLine_194
                      · exact absurd rfl (mm_ne c165)
                    · refine lv_istore (lv' := [(4, .int 1), (3, .int v10), (2, .int v8), (1, .int v3), (0, .ref a_0)]) hx hb dX12_ruleLine_145 hl (by decide) rfl ?_
                      clear hl
                      clear ls
                      intro ls hl
                      refine lv_aload_n hx hb dX12_ruleLine_147 rfl (lv_at hl 4 rfl) ?_
                      refine mm_finv (va_runV (As := []) (rest := []) ⟨hx, hb, hml, hown, hts⟩ (M22_X12_next l G cy H.size a_0 i_0 a_1 a_2 a_3 a_4 a_5 i_1 i_2 i_3 i_4 i_5 j_0 i_6 i_7 i_8 i_9 a_6 a_7 a_8 a_9 a_10 a_11 a_12 a_13 a_14 a_15 a_16 a_17 a_18 i_10 i_11 i_12 i_13 i_14 i_15 a_19 i_16 a_20 f_0 h0 h1 h2 h3 h5 h43) (cwV 0 hts (mm_gV mm_w451 mm_w452 mm_w453 mm_w5 mm_w454) rfl rfl rfl hd_X12_next ⟨by rw [hRf]; exact Nat.le_of_ble_eq_true rfl, by rw [hRl]; exact Nat.le_of_ble_eq_true rfl⟩) (mm_preV hK hZ hS hA hP hD [0, 1] rfl rfl 0 rfl rfl rfl) rfl rfl hl.1 rfl (lv_room (Nat.le_of_ble_eq_true rfl)) dX12_ruleLine_148 ⟨by rw [hRc]; exact Nat.le_of_ble_eq_true rfl, by rw [hRs]; exact Nat.le_of_ble_eq_true rfl⟩) hP hD hS hA (fun u : Int32 × Int32 × Int32 × Int32 × Int64 => [(a_0, .inr (12, [.int i_0, .ref a_1, .ref a_2, .ref a_3, .ref a_4, .ref a_5, .int i_1, .int u.1, .int u.2.1, .int u.2.2.1, .int u.2.2.2.1, .long u.2.2.2.2, .int i_6, .int i_7, .int i_8, .int i_9, .ref a_6, .ref a_7, .ref a_8, .ref a_9, .ref a_10, .ref a_11, .ref a_12, .ref a_13, .ref a_14, .ref a_15, .ref a_16, .ref a_17, .ref a_18, .int i_10, .int i_11, .int i_12, .int i_13, .int i_14, .int i_15, .ref a_19, .int i_16, .ref a_20])), (a_5, .inl (cy 0, 600, .inl f_0)), (a_7, .inl (cy 1, 30, .inl (mm_g [i_17, i_18, i_19, i_20, i_21, i_22, i_23, i_24, i_25, i_26, i_27, i_28, i_29, i_30, i_31, i_32, i_33, i_34, i_35, i_36, i_37, i_38, i_39, i_40, i_41, i_42, i_43, i_44, i_45, i_46]))), (a_9, .inl (cy 1, 15, .inl f_1)), (a_10, .inl (cy 1, 1050, .inl z37_4_72))]) [0, 1] [2, 3, 4] (n := 5) (fun _ => rfl) (by decide +kernel) (by decide +kernel) rfl (fun _ => rfl) (wr := [(a_7, .inl (cy 1, 30, .inl (mm_g [i_17, i_18, i_19, i_20, i_21, i_22, i_23, i_24, i_25, i_26, i_27, i_28, i_29, i_30, i_31, i_32, i_33, i_34, i_35, i_36, i_37, i_38, i_39, i_40, i_41, i_42, i_43, i_44, i_45, i_46]))), (a_9, .inl (cy 1, 15, .inl f_1)), (a_10, .inl (cy 1, 1050, .inl z37_4_72))]) rfl (fun _ => rfl) (fun _ => rfl) ?_
                      clear hP hD hS
                      clear H locs
                      intro u
                      obtain ⟨n195, n196, n197, n198, n199⟩ := u
                      intro H locs hw (hP : va_P G vwCl [(a_0, .inr (12, [.int i_0, .ref a_1, .ref a_2, .ref a_3, .ref a_4, .ref a_5, .int i_1, .int n195, .int n196, .int n197, .int n198, .long n199, .int i_6, .int i_7, .int i_8, .int i_9, .ref a_6, .ref a_7, .ref a_8, .ref a_9, .ref a_10, .ref a_11, .ref a_12, .ref a_13, .ref a_14, .ref a_15, .ref a_16, .ref a_17, .ref a_18, .int i_10, .int i_11, .int i_12, .int i_13, .int i_14, .int i_15, .ref a_19, .int i_16, .ref a_20])), (a_5, .inl (cy 0, 600, .inl f_0)), (a_7, .inl (cy 1, 30, .inl (mm_g [i_17, i_18, i_19, i_20, i_21, i_22, i_23, i_24, i_25, i_26, i_27, i_28, i_29, i_30, i_31, i_32, i_33, i_34, i_35, i_36, i_37, i_38, i_39, i_40, i_41, i_42, i_43, i_44, i_45, i_46]))), (a_9, .inl (cy 1, 15, .inl f_1)), (a_10, .inl (cy 1, 1050, .inl z37_4_72))] H) (hD : va_D A [(a_0, .inr (12, [.int i_0, .ref a_1, .ref a_2, .ref a_3, .ref a_4, .ref a_5, .int i_1, .int n195, .int n196, .int n197, .int n198, .long n199, .int i_6, .int i_7, .int i_8, .int i_9, .ref a_6, .ref a_7, .ref a_8, .ref a_9, .ref a_10, .ref a_11, .ref a_12, .ref a_13, .ref a_14, .ref a_15, .ref a_16, .ref a_17, .ref a_18, .int i_10, .int i_11, .int i_12, .int i_13, .int i_14, .int i_15, .ref a_19, .int i_16, .ref a_20])), (a_5, .inl (cy 0, 600, .inl f_0)), (a_7, .inl (cy 1, 30, .inl (mm_g [i_17, i_18, i_19, i_20, i_21, i_22, i_23, i_24, i_25, i_26, i_27, i_28, i_29, i_30, i_31, i_32, i_33, i_34, i_35, i_36, i_37, i_38, i_39, i_40, i_41, i_42, i_43, i_44, i_45, i_46]))), (a_9, .inl (cy 1, 15, .inl f_1)), (a_10, .inl (cy 1, 1050, .inl z37_4_72))]) hS
                      obtain ⟨w200, w201, w202, w203, w204, w205, w206⟩ := hw
                      replace w203 : (n197 : Int32).toInt ≤ (n195 : Int32).toInt := w203
                      replace w204 : (n195 : Int32).toInt ≤ (i_1 : Int32).toInt := w204
                      replace w205 : mm_tk n196 n197 n195 := w205
                      replace w206 : (i_2 : Int32).toInt ≤ (n197 : Int32).toInt := w206
                      refine lv_aload_n hx hb dX12_ruleLine_151 rfl (lv_at hl 4 rfl) ?_
                      refine mm_fini (va_runV (As := []) (rest := []) ⟨hx, hb, hml, hown, hts⟩ (M48_X12_wordHere l G cy H.size a_0 i_0 a_1 a_2 a_3 a_4 a_5 i_1 n195 n196 n197 n198 n199 i_6 i_7 i_8 i_9 a_6 a_7 a_8 a_9 a_10 a_11 a_12 a_13 a_14 a_15 a_16 a_17 a_18 i_10 i_11 i_12 i_13 i_14 i_15 a_19 i_16 a_20 f_0 i_17 i_18 i_19 i_20 i_21 i_22 i_23 i_24 i_25 i_26 i_27 i_28 i_29 i_30 i_31 i_32 i_33 i_34 i_35 i_36 i_37 i_38 i_39 i_40 i_41 i_42 i_43 i_44 i_45 i_46 h0 w200 w201 w202 h4 h5 h6 h7 h8 h9 h10 h11 h12 h13 h14 h15 h16 h17 h18 h19 h20 h21 h22 h23 h24 h25 h26 h27 h28 h29 h30 h31 h32 (mm_wk h33 (by decide)) h34 h35 w203 w204 w205) (cwV 0 hts (mm_gV mm_w532 mm_w533 mm_w534 mm_w5 mm_w535) rfl rfl rfl hd_X12_wordHere ⟨by rw [hRf]; exact Nat.le_of_ble_eq_true rfl, by rw [hRl]; exact Nat.le_of_ble_eq_true rfl⟩) (mm_preV hK hZ hS hA hP hD [0, 1, 2] rfl rfl 0 rfl rfl rfl) rfl rfl hl.1 rfl (lv_room (Nat.le_of_ble_eq_true rfl)) dX12_ruleLine_152 ⟨by rw [hRc]; exact Nat.le_of_ble_eq_true rfl, by rw [hRs]; exact Nat.le_of_ble_eq_true rfl⟩) hP hD hS hA (fun u : Int32 × Int32 × Int32 × Int32 × Int64 × Int32 × Int32 => [(a_0, .inr (12, [.int i_0, .ref a_1, .ref a_2, .ref a_3, .ref a_4, .ref a_5, .int i_1, .int u.1, .int u.2.1, .int u.2.2.1, .int u.2.2.2.1, .long u.2.2.2.2.1, .int u.2.2.2.2.2.1, .int u.2.2.2.2.2.2, .int i_8, .int i_9, .ref a_6, .ref a_7, .ref a_8, .ref a_9, .ref a_10, .ref a_11, .ref a_12, .ref a_13, .ref a_14, .ref a_15, .ref a_16, .ref a_17, .ref a_18, .int i_10, .int i_11, .int i_12, .int i_13, .int i_14, .int i_15, .ref a_19, .int i_16, .ref a_20])), (a_5, .inl (cy 0, 600, .inl f_0)), (a_7, .inl (cy 1, 30, .inl (mm_g [i_17, i_18, i_19, i_20, i_21, i_22, i_23, i_24, i_25, i_26, i_27, i_28, i_29, i_30, i_31, i_32, i_33, i_34, i_35, i_36, i_37, i_38, i_39, i_40, i_41, i_42, i_43, i_44, i_45, i_46]))), (a_9, .inl (cy 1, 15, .inl f_1)), (a_10, .inl (cy 1, 1050, .inl z37_4_72))]) [0, 1, 2] [3, 4] (n := 5) (fun _ => rfl) (by decide +kernel) (by decide +kernel) rfl (fun _ => rfl) (wr := [(a_9, .inl (cy 1, 15, .inl f_1)), (a_10, .inl (cy 1, 1050, .inl z37_4_72))]) rfl (fun _ => rfl) (fun _ => @rfl _ ([a_0, a_5, a_7] : List Nat)) ?_
                      clear hP hD hS
                      clear H locs
                      intro v214 u
                      obtain ⟨n207, n208, n209, n210, n211, n212, n213⟩ := u
                      intro H locs hw (hP : va_P G vwCl [(a_0, .inr (12, [.int i_0, .ref a_1, .ref a_2, .ref a_3, .ref a_4, .ref a_5, .int i_1, .int n207, .int n208, .int n209, .int n210, .long n211, .int n212, .int n213, .int i_8, .int i_9, .ref a_6, .ref a_7, .ref a_8, .ref a_9, .ref a_10, .ref a_11, .ref a_12, .ref a_13, .ref a_14, .ref a_15, .ref a_16, .ref a_17, .ref a_18, .int i_10, .int i_11, .int i_12, .int i_13, .int i_14, .int i_15, .ref a_19, .int i_16, .ref a_20])), (a_5, .inl (cy 0, 600, .inl f_0)), (a_7, .inl (cy 1, 30, .inl (mm_g [i_17, i_18, i_19, i_20, i_21, i_22, i_23, i_24, i_25, i_26, i_27, i_28, i_29, i_30, i_31, i_32, i_33, i_34, i_35, i_36, i_37, i_38, i_39, i_40, i_41, i_42, i_43, i_44, i_45, i_46]))), (a_9, .inl (cy 1, 15, .inl f_1)), (a_10, .inl (cy 1, 1050, .inl z37_4_72))] H) (hD : va_D A [(a_0, .inr (12, [.int i_0, .ref a_1, .ref a_2, .ref a_3, .ref a_4, .ref a_5, .int i_1, .int n207, .int n208, .int n209, .int n210, .long n211, .int n212, .int n213, .int i_8, .int i_9, .ref a_6, .ref a_7, .ref a_8, .ref a_9, .ref a_10, .ref a_11, .ref a_12, .ref a_13, .ref a_14, .ref a_15, .ref a_16, .ref a_17, .ref a_18, .int i_10, .int i_11, .int i_12, .int i_13, .int i_14, .int i_15, .ref a_19, .int i_16, .ref a_20])), (a_5, .inl (cy 0, 600, .inl f_0)), (a_7, .inl (cy 1, 30, .inl (mm_g [i_17, i_18, i_19, i_20, i_21, i_22, i_23, i_24, i_25, i_26, i_27, i_28, i_29, i_30, i_31, i_32, i_33, i_34, i_35, i_36, i_37, i_38, i_39, i_40, i_41, i_42, i_43, i_44, i_45, i_46]))), (a_9, .inl (cy 1, 15, .inl f_1)), (a_10, .inl (cy 1, 1050, .inl z37_4_72))]) hS
                      obtain ⟨w215, w216, w217, w218, w219, w220, w221, w222, w223, hw⟩ := hw
                      replace w219 : (n209 : Int32).toInt ≤ (n207 : Int32).toInt := w219
                      replace w220 : (n207 : Int32).toInt ≤ (i_1 : Int32).toInt := w220
                      replace w221 : mm_tk n208 n209 n207 := w221
                      replace w222 : (n197 : Int32).toInt ≤ (n209 : Int32).toInt := w222
                      replace w223 : mm_b0 i_6 n212 := w223
                      obtain ⟨w224, w225, w226⟩ := hw
                      replace w225 : (v214 : Int32).toInt ≤ (i_43 : Int32).toInt := w225
                      replace w226 : mm_nv n212 v214 n196 n198 := w226
                      refine lv_istore (lv' := [(5, .int v214), (4, .int 1), (3, .int v10), (2, .int v8), (1, .int v3), (0, .ref a_0)]) hx hb dX12_ruleLine_155 hl (by decide) rfl ?_
                      clear hl
                      clear ls
                      intro ls hl
                      refine lv_aload_n hx hb dX12_ruleLine_157 rfl (lv_at hl 5 rfl) ?_
                      refine lv_iload hx hb dX12_ruleLine_158 (lv_at hl 0 rfl) ?_
                      refine lv_iload hx hb dX12_ruleLine_160 (lv_at hl 0 rfl) ?_
                      refine mm_fini (va_runV (As := [.int v214, .int v214]) (rest := []) ⟨hx, hb, hml, hown, hts⟩ (M62_X12_otherWord l G cy H.size a_0 v214 v214 i_0 a_1 a_2 a_3 a_4 a_5 i_1 n207 n208 n209 n210 n211 n212 n213 i_8 i_9 a_6 a_7 a_8 a_9 a_10 a_11 a_12 a_13 a_14 a_15 a_16 a_17 a_18 i_10 i_11 i_12 i_13 i_14 i_15 a_19 i_16 a_20 f_0 i_17 i_18 i_19 i_20 i_21 i_22 i_23 i_24 i_25 i_26 i_27 i_28 i_29 i_30 i_31 i_32 i_33 i_34 i_35 i_36 i_37 i_38 i_39 i_40 i_41 i_42 i_43 i_44 i_45 i_46 w224 w224 h0 w215 w216 w217 w218 h5 h6 h7 h8 h9 h10 h11 h12 h13 h14 h15 h16 h17 h18 h19 h20 h21 h22 h23 h24 h25 h26 h27 h28 h29 h30 h31 h32 (mm_wk h33 (by decide)) h34 h35 w219 w220 w221) (cwV 2 hts (mm_gV mm_w536 mm_w537 mm_w538 mm_w5 mm_w539) rfl rfl rfl hd_X12_otherWord ⟨by rw [hRf]; exact Nat.le_of_ble_eq_true rfl, by rw [hRl]; exact Nat.le_of_ble_eq_true rfl⟩) (mm_preV hK hZ hS hA hP hD [0, 1, 2] rfl rfl 0 rfl rfl rfl) rfl rfl hl.1 rfl (lv_room (Nat.le_of_ble_eq_true rfl)) dX12_ruleLine_162 ⟨by rw [hRc]; exact Nat.le_of_ble_eq_true rfl, by rw [hRs]; exact Nat.le_of_ble_eq_true rfl⟩) hP hD hS hA (fun u : Int32 × Int32 × Int32 × Int32 × Int64 × Int32 × Int32 => [(a_0, .inr (12, [.int i_0, .ref a_1, .ref a_2, .ref a_3, .ref a_4, .ref a_5, .int i_1, .int u.1, .int u.2.1, .int u.2.2.1, .int u.2.2.2.1, .long u.2.2.2.2.1, .int u.2.2.2.2.2.1, .int u.2.2.2.2.2.2, .int i_8, .int i_9, .ref a_6, .ref a_7, .ref a_8, .ref a_9, .ref a_10, .ref a_11, .ref a_12, .ref a_13, .ref a_14, .ref a_15, .ref a_16, .ref a_17, .ref a_18, .int i_10, .int i_11, .int i_12, .int i_13, .int i_14, .int i_15, .ref a_19, .int i_16, .ref a_20])), (a_5, .inl (cy 0, 600, .inl f_0)), (a_7, .inl (cy 1, 30, .inl (mm_g [i_17, i_18, i_19, i_20, i_21, i_22, i_23, i_24, i_25, i_26, i_27, i_28, i_29, i_30, i_31, i_32, i_33, i_34, i_35, i_36, i_37, i_38, i_39, i_40, i_41, i_42, i_43, i_44, i_45, i_46]))), (a_9, .inl (cy 1, 15, .inl f_1)), (a_10, .inl (cy 1, 1050, .inl z37_4_72))]) [0, 1, 2] [3, 4] (n := 5) (fun _ => rfl) (by decide +kernel) (by decide +kernel) rfl (fun _ => rfl) (wr := [(a_9, .inl (cy 1, 15, .inl f_1)), (a_10, .inl (cy 1, 1050, .inl z37_4_72))]) rfl (fun _ => rfl) (fun _ => @rfl _ ([a_0, a_5, a_7] : List Nat)) ?_
                      clear hP hD hS
                      clear H locs
                      intro v234 u
                      obtain ⟨n227, n228, n229, n230, n231, n232, n233⟩ := u
                      intro H locs hw (hP : va_P G vwCl [(a_0, .inr (12, [.int i_0, .ref a_1, .ref a_2, .ref a_3, .ref a_4, .ref a_5, .int i_1, .int n227, .int n228, .int n229, .int n230, .long n231, .int n232, .int n233, .int i_8, .int i_9, .ref a_6, .ref a_7, .ref a_8, .ref a_9, .ref a_10, .ref a_11, .ref a_12, .ref a_13, .ref a_14, .ref a_15, .ref a_16, .ref a_17, .ref a_18, .int i_10, .int i_11, .int i_12, .int i_13, .int i_14, .int i_15, .ref a_19, .int i_16, .ref a_20])), (a_5, .inl (cy 0, 600, .inl f_0)), (a_7, .inl (cy 1, 30, .inl (mm_g [i_17, i_18, i_19, i_20, i_21, i_22, i_23, i_24, i_25, i_26, i_27, i_28, i_29, i_30, i_31, i_32, i_33, i_34, i_35, i_36, i_37, i_38, i_39, i_40, i_41, i_42, i_43, i_44, i_45, i_46]))), (a_9, .inl (cy 1, 15, .inl f_1)), (a_10, .inl (cy 1, 1050, .inl z37_4_72))] H) (hD : va_D A [(a_0, .inr (12, [.int i_0, .ref a_1, .ref a_2, .ref a_3, .ref a_4, .ref a_5, .int i_1, .int n227, .int n228, .int n229, .int n230, .long n231, .int n232, .int n233, .int i_8, .int i_9, .ref a_6, .ref a_7, .ref a_8, .ref a_9, .ref a_10, .ref a_11, .ref a_12, .ref a_13, .ref a_14, .ref a_15, .ref a_16, .ref a_17, .ref a_18, .int i_10, .int i_11, .int i_12, .int i_13, .int i_14, .int i_15, .ref a_19, .int i_16, .ref a_20])), (a_5, .inl (cy 0, 600, .inl f_0)), (a_7, .inl (cy 1, 30, .inl (mm_g [i_17, i_18, i_19, i_20, i_21, i_22, i_23, i_24, i_25, i_26, i_27, i_28, i_29, i_30, i_31, i_32, i_33, i_34, i_35, i_36, i_37, i_38, i_39, i_40, i_41, i_42, i_43, i_44, i_45, i_46]))), (a_9, .inl (cy 1, 15, .inl f_1)), (a_10, .inl (cy 1, 1050, .inl z37_4_72))]) hS
                      obtain ⟨w235, w236, w237, w238, w239, w240, w241, w242, w243, hw⟩ := hw
                      replace w239 : (n229 : Int32).toInt ≤ (n227 : Int32).toInt := w239
                      replace w240 : (n227 : Int32).toInt ≤ (i_1 : Int32).toInt := w240
                      replace w241 : mm_tk n228 n229 n227 := w241
                      replace w242 : (n209 : Int32).toInt ≤ (n229 : Int32).toInt := w242
                      replace w243 : mm_b0 n212 n232 := w243
                      obtain ⟨w244, w245, w246, w247⟩ := hw
                      replace w245 : (v234 : Int32).toInt ≤ (i_43 : Int32).toInt := w245
                      replace w246 : mm_nq n232 v234 v214 := w246
                      replace w247 : mm_nq n232 v234 v214 := w247
                      refine lv_istore (lv' := [(6, .int v234), (5, .int v214), (4, .int 1), (3, .int v10), (2, .int v8), (1, .int v3), (0, .ref a_0)]) hx hb dX12_ruleLine_165 hl (by decide) rfl ?_
                      clear hl
                      clear ls
                      intro ls hl
                      refine lv_iload hx hb dX12_ruleLine_167 (lv_at hl 2 rfl) ?_
                      refine lv_if_eq (tgt := 183) hx hb dX12_ruleLine_169 (by decide) (fun c248 => ?_) (fun c248 => ?_)
                      · exact mm_eqN c248.symm mm_k0 mm_k1 (by decide)
                      · refine lv_aload_n hx hb dX12_ruleLine_172 rfl (lv_at hl 6 rfl) ?_
                        refine lv_iload hx hb dX12_ruleLine_173 (lv_at hl 1 rfl) ?_
                        refine lv_iload hx hb dX12_ruleLine_175 (lv_at hl 0 rfl) ?_
                        refine mm_fini (va_runV (As := [.int v214, .int v234]) (rest := []) ⟨hx, hb, hml, hown, hts⟩ (M62_X12_otherWord l G cy H.size a_0 v214 v234 i_0 a_1 a_2 a_3 a_4 a_5 i_1 n227 n228 n229 n230 n231 n232 n233 i_8 i_9 a_6 a_7 a_8 a_9 a_10 a_11 a_12 a_13 a_14 a_15 a_16 a_17 a_18 i_10 i_11 i_12 i_13 i_14 i_15 a_19 i_16 a_20 f_0 i_17 i_18 i_19 i_20 i_21 i_22 i_23 i_24 i_25 i_26 i_27 i_28 i_29 i_30 i_31 i_32 i_33 i_34 i_35 i_36 i_37 i_38 i_39 i_40 i_41 i_42 i_43 i_44 i_45 i_46 w224 w244 h0 w235 w236 w237 w238 h5 h6 h7 h8 h9 h10 h11 h12 h13 h14 h15 h16 h17 h18 h19 h20 h21 h22 h23 h24 h25 h26 h27 h28 h29 h30 h31 h32 (mm_wk h33 (by decide)) h34 h35 w239 w240 w241) (cwV 2 hts (mm_gV mm_w536 mm_w537 mm_w538 mm_w5 mm_w539) rfl rfl rfl hd_X12_otherWord ⟨by rw [hRf]; exact Nat.le_of_ble_eq_true rfl, by rw [hRl]; exact Nat.le_of_ble_eq_true rfl⟩) (mm_preV hK hZ hS hA hP hD [0, 1, 2] rfl rfl 0 rfl rfl rfl) rfl rfl hl.1 rfl (lv_room (Nat.le_of_ble_eq_true rfl)) dX12_ruleLine_177 ⟨by rw [hRc]; exact Nat.le_of_ble_eq_true rfl, by rw [hRs]; exact Nat.le_of_ble_eq_true rfl⟩) hP hD hS hA (fun u : Int32 × Int32 × Int32 × Int32 × Int64 × Int32 × Int32 => [(a_0, .inr (12, [.int i_0, .ref a_1, .ref a_2, .ref a_3, .ref a_4, .ref a_5, .int i_1, .int u.1, .int u.2.1, .int u.2.2.1, .int u.2.2.2.1, .long u.2.2.2.2.1, .int u.2.2.2.2.2.1, .int u.2.2.2.2.2.2, .int i_8, .int i_9, .ref a_6, .ref a_7, .ref a_8, .ref a_9, .ref a_10, .ref a_11, .ref a_12, .ref a_13, .ref a_14, .ref a_15, .ref a_16, .ref a_17, .ref a_18, .int i_10, .int i_11, .int i_12, .int i_13, .int i_14, .int i_15, .ref a_19, .int i_16, .ref a_20])), (a_5, .inl (cy 0, 600, .inl f_0)), (a_7, .inl (cy 1, 30, .inl (mm_g [i_17, i_18, i_19, i_20, i_21, i_22, i_23, i_24, i_25, i_26, i_27, i_28, i_29, i_30, i_31, i_32, i_33, i_34, i_35, i_36, i_37, i_38, i_39, i_40, i_41, i_42, i_43, i_44, i_45, i_46]))), (a_9, .inl (cy 1, 15, .inl f_1)), (a_10, .inl (cy 1, 1050, .inl z37_4_72))]) [0, 1, 2] [3, 4] (n := 5) (fun _ => rfl) (by decide +kernel) (by decide +kernel) rfl (fun _ => rfl) (wr := [(a_9, .inl (cy 1, 15, .inl f_1)), (a_10, .inl (cy 1, 1050, .inl z37_4_72))]) rfl (fun _ => rfl) (fun _ => @rfl _ ([a_0, a_5, a_7] : List Nat)) ?_
                        clear hP hD hS
                        clear H locs
                        intro v256 u
                        obtain ⟨n249, n250, n251, n252, n253, n254, n255⟩ := u
                        intro H locs hw (hP : va_P G vwCl [(a_0, .inr (12, [.int i_0, .ref a_1, .ref a_2, .ref a_3, .ref a_4, .ref a_5, .int i_1, .int n249, .int n250, .int n251, .int n252, .long n253, .int n254, .int n255, .int i_8, .int i_9, .ref a_6, .ref a_7, .ref a_8, .ref a_9, .ref a_10, .ref a_11, .ref a_12, .ref a_13, .ref a_14, .ref a_15, .ref a_16, .ref a_17, .ref a_18, .int i_10, .int i_11, .int i_12, .int i_13, .int i_14, .int i_15, .ref a_19, .int i_16, .ref a_20])), (a_5, .inl (cy 0, 600, .inl f_0)), (a_7, .inl (cy 1, 30, .inl (mm_g [i_17, i_18, i_19, i_20, i_21, i_22, i_23, i_24, i_25, i_26, i_27, i_28, i_29, i_30, i_31, i_32, i_33, i_34, i_35, i_36, i_37, i_38, i_39, i_40, i_41, i_42, i_43, i_44, i_45, i_46]))), (a_9, .inl (cy 1, 15, .inl f_1)), (a_10, .inl (cy 1, 1050, .inl z37_4_72))] H) (hD : va_D A [(a_0, .inr (12, [.int i_0, .ref a_1, .ref a_2, .ref a_3, .ref a_4, .ref a_5, .int i_1, .int n249, .int n250, .int n251, .int n252, .long n253, .int n254, .int n255, .int i_8, .int i_9, .ref a_6, .ref a_7, .ref a_8, .ref a_9, .ref a_10, .ref a_11, .ref a_12, .ref a_13, .ref a_14, .ref a_15, .ref a_16, .ref a_17, .ref a_18, .int i_10, .int i_11, .int i_12, .int i_13, .int i_14, .int i_15, .ref a_19, .int i_16, .ref a_20])), (a_5, .inl (cy 0, 600, .inl f_0)), (a_7, .inl (cy 1, 30, .inl (mm_g [i_17, i_18, i_19, i_20, i_21, i_22, i_23, i_24, i_25, i_26, i_27, i_28, i_29, i_30, i_31, i_32, i_33, i_34, i_35, i_36, i_37, i_38, i_39, i_40, i_41, i_42, i_43, i_44, i_45, i_46]))), (a_9, .inl (cy 1, 15, .inl f_1)), (a_10, .inl (cy 1, 1050, .inl z37_4_72))]) hS
                        obtain ⟨w257, w258, w259, w260, w261, w262, w263, w264, w265, hw⟩ := hw
                        replace w261 : (n251 : Int32).toInt ≤ (n249 : Int32).toInt := w261
                        replace w262 : (n249 : Int32).toInt ≤ (i_1 : Int32).toInt := w262
                        replace w263 : mm_tk n250 n251 n249 := w263
                        replace w264 : (n229 : Int32).toInt ≤ (n251 : Int32).toInt := w264
                        replace w265 : mm_b0 n232 n254 := w265
                        obtain ⟨w266, w267, w268, w269⟩ := hw
                        replace w267 : (v256 : Int32).toInt ≤ (i_43 : Int32).toInt := w267
                        replace w268 : mm_nq n254 v256 v214 := w268
                        replace w269 : mm_nq n254 v256 v234 := w269
                        refine lv_goto (tgt := 185) hx hb dX12_ruleLine_180 (by decide) ?_
                        refine lv_istore (lv' := [(7, .int v256), (6, .int v234), (5, .int v214), (4, .int 1), (3, .int v10), (2, .int v8), (1, .int v3), (0, .ref a_0)]) hx hb dX12_ruleLine_185 hl (by decide) rfl ?_
                        clear hl
                        clear ls
                        intro ls hl
                        refine lv_aload_n hx hb dX12_ruleLine_187 rfl (lv_at hl 7 rfl) ?_
                        refine va_get (D := G) (ci := 12) (v := .int n254) (C := RX12) (T := TX12) (N := 38) hx hb hts (mm_i inlX12) hown hK.1 hP 0 rfl rfl 12 (by decide) (mm_h hts mm_w436) (fun _ h9 => h9) rfl dX12_ruleLine_188 ?_
                        refine lv_if_eq (tgt := 195) hx hb dX12_ruleLine_191 (by decide) (fun c270 => ?_) (fun c270 => ?_)
                        · have q271 := mm_eqI (lo := 0) (hi := 0) c270 w260 mm_k0 (by decide)
                          have q272 : mm_rg n232 0 0 := mm_b0_d w265 q271 (by decide)
                          have q273 : mm_rg n212 0 0 := mm_b0_d w243 q272 (by decide)
                          have q274 : mm_rg i_6 0 0 := mm_b0_d w223 q273 (by decide)
                          refine lv_aload_n hx hb dX12_ruleLine_195 rfl (lv_at hl 7 rfl) ?_
                          refine va_get (D := G) (ci := 12) (v := .ref a_10) (C := RX12) (T := TX12) (N := 38) hx hb hts (mm_i inlX12) hown hK.1 hP 0 rfl rfl 20 (by decide) (mm_h hts mm_w152) (fun _ h9 => h9) rfl dX12_ruleLine_196 ?_
                          refine lv_iload_n hx hb dX12_ruleLine_199 rfl (lv_at hl 5 rfl) ?_
                          refine lv_iload hx hb dX12_ruleLine_200 (lv_at hl 2 rfl) ?_
                          refine lv_iadd hx hb dX12_ruleLine_202 ?_
                          refine lv_topi (fun v275 ev275 => ?_)
                          have rv275 : mm_rg v275 840 1049 := mm_add ev275 rv8 w224 (by decide) (by decide)
                          have tv275 := mm_addE ev275 rv8 w224 (by decide)
                          refine lv_iload hx hb dX12_ruleLine_203 (lv_at hl 1 rfl) ?_
                          refine va_iast hx hb hK.1 hP hD hS 4 1 rfl rfl (mm_in rv275 (by decide)) dX12_ruleLine_205 ?_
                          clear hP hD hS
                          clear H locs
                          obtain ⟨g276, eg276⟩ : ∃ z : Nat → Int32, z = upd z37_4_72 v275.toNatClampNeg v234 := ⟨_, rfl⟩
                          rw [← eg276]
                          intro H locs (hP : va_P G vwCl [(a_0, .inr (12, [.int i_0, .ref a_1, .ref a_2, .ref a_3, .ref a_4, .ref a_5, .int i_1, .int n249, .int n250, .int n251, .int n252, .long n253, .int n254, .int n255, .int i_8, .int i_9, .ref a_6, .ref a_7, .ref a_8, .ref a_9, .ref a_10, .ref a_11, .ref a_12, .ref a_13, .ref a_14, .ref a_15, .ref a_16, .ref a_17, .ref a_18, .int i_10, .int i_11, .int i_12, .int i_13, .int i_14, .int i_15, .ref a_19, .int i_16, .ref a_20])), (a_5, .inl (cy 0, 600, .inl f_0)), (a_7, .inl (cy 1, 30, .inl (mm_g [i_17, i_18, i_19, i_20, i_21, i_22, i_23, i_24, i_25, i_26, i_27, i_28, i_29, i_30, i_31, i_32, i_33, i_34, i_35, i_36, i_37, i_38, i_39, i_40, i_41, i_42, i_43, i_44, i_45, i_46]))), (a_9, .inl (cy 1, 15, .inl f_1)), (a_10, .inl (cy 1, 1050, .inl g276))] H) (hD : va_D A [(a_0, .inr (12, [.int i_0, .ref a_1, .ref a_2, .ref a_3, .ref a_4, .ref a_5, .int i_1, .int n249, .int n250, .int n251, .int n252, .long n253, .int n254, .int n255, .int i_8, .int i_9, .ref a_6, .ref a_7, .ref a_8, .ref a_9, .ref a_10, .ref a_11, .ref a_12, .ref a_13, .ref a_14, .ref a_15, .ref a_16, .ref a_17, .ref a_18, .int i_10, .int i_11, .int i_12, .int i_13, .int i_14, .int i_15, .ref a_19, .int i_16, .ref a_20])), (a_5, .inl (cy 0, 600, .inl f_0)), (a_7, .inl (cy 1, 30, .inl (mm_g [i_17, i_18, i_19, i_20, i_21, i_22, i_23, i_24, i_25, i_26, i_27, i_28, i_29, i_30, i_31, i_32, i_33, i_34, i_35, i_36, i_37, i_38, i_39, i_40, i_41, i_42, i_43, i_44, i_45, i_46]))), (a_9, .inl (cy 1, 15, .inl f_1)), (a_10, .inl (cy 1, 1050, .inl g276))]) hS
                          have rg276 : mm_ar g276 0 9 := by rw [eg276]; exact mm_ar_upd (mm_ar_wk rz37_4_72 (by decide)) (mm_wk w244 (by decide)) _
                          refine lv_aload_n hx hb dX12_ruleLine_206 rfl (lv_at hl 7 rfl) ?_
                          refine va_get (D := G) (ci := 12) (v := .ref a_10) (C := RX12) (T := TX12) (N := 38) hx hb hts (mm_i inlX12) hown hK.1 hP 0 rfl rfl 20 (by decide) (mm_h hts mm_w152) (fun _ h9 => h9) rfl dX12_ruleLine_207 ?_
                          refine lv_iload_n hx hb dX12_ruleLine_210 rfl (lv_at hl 5 rfl) ?_
                          refine lv_iload hx hb dX12_ruleLine_211 (lv_at hl 1 rfl) ?_
                          refine lv_iadd hx hb dX12_ruleLine_213 ?_
                          refine lv_topi (fun v277 ev277 => ?_)
                          have rv277 : mm_rg v277 840 1049 := mm_add ev277 rv8 w244 (by decide) (by decide)
                          have tv277 := mm_addE ev277 rv8 w244 (by decide)
                          refine lv_iload hx hb dX12_ruleLine_214 (lv_at hl 0 rfl) ?_
                          refine va_iast hx hb hK.1 hP hD hS 4 1 rfl rfl (mm_in rv277 (by decide)) dX12_ruleLine_216 ?_
                          clear hP hD hS
                          clear H locs
                          obtain ⟨g278, eg278⟩ : ∃ z : Nat → Int32, z = upd g276 v277.toNatClampNeg v256 := ⟨_, rfl⟩
                          rw [← eg278]
                          intro H locs (hP : va_P G vwCl [(a_0, .inr (12, [.int i_0, .ref a_1, .ref a_2, .ref a_3, .ref a_4, .ref a_5, .int i_1, .int n249, .int n250, .int n251, .int n252, .long n253, .int n254, .int n255, .int i_8, .int i_9, .ref a_6, .ref a_7, .ref a_8, .ref a_9, .ref a_10, .ref a_11, .ref a_12, .ref a_13, .ref a_14, .ref a_15, .ref a_16, .ref a_17, .ref a_18, .int i_10, .int i_11, .int i_12, .int i_13, .int i_14, .int i_15, .ref a_19, .int i_16, .ref a_20])), (a_5, .inl (cy 0, 600, .inl f_0)), (a_7, .inl (cy 1, 30, .inl (mm_g [i_17, i_18, i_19, i_20, i_21, i_22, i_23, i_24, i_25, i_26, i_27, i_28, i_29, i_30, i_31, i_32, i_33, i_34, i_35, i_36, i_37, i_38, i_39, i_40, i_41, i_42, i_43, i_44, i_45, i_46]))), (a_9, .inl (cy 1, 15, .inl f_1)), (a_10, .inl (cy 1, 1050, .inl g278))] H) (hD : va_D A [(a_0, .inr (12, [.int i_0, .ref a_1, .ref a_2, .ref a_3, .ref a_4, .ref a_5, .int i_1, .int n249, .int n250, .int n251, .int n252, .long n253, .int n254, .int n255, .int i_8, .int i_9, .ref a_6, .ref a_7, .ref a_8, .ref a_9, .ref a_10, .ref a_11, .ref a_12, .ref a_13, .ref a_14, .ref a_15, .ref a_16, .ref a_17, .ref a_18, .int i_10, .int i_11, .int i_12, .int i_13, .int i_14, .int i_15, .ref a_19, .int i_16, .ref a_20])), (a_5, .inl (cy 0, 600, .inl f_0)), (a_7, .inl (cy 1, 30, .inl (mm_g [i_17, i_18, i_19, i_20, i_21, i_22, i_23, i_24, i_25, i_26, i_27, i_28, i_29, i_30, i_31, i_32, i_33, i_34, i_35, i_36, i_37, i_38, i_39, i_40, i_41, i_42, i_43, i_44, i_45, i_46]))), (a_9, .inl (cy 1, 15, .inl f_1)), (a_10, .inl (cy 1, 1050, .inl g278))]) hS
                          have rg278 : mm_ar g278 0 9 := by rw [eg278]; exact mm_ar_upd (mm_ar_wk rg276 (by decide)) (mm_wk w266 (by decide)) _
                          refine lv_iload hx hb dX12_ruleLine_217 (lv_at hl 3 rfl) ?_
                          refine lv_if_eq (tgt := 233) hx hb dX12_ruleLine_219 (by decide) (fun c279 => ?_) (fun c279 => ?_)
                          · exact mm_eqN c279.symm mm_k0 mm_k1 (by decide)
                          · refine lv_aload_n hx hb dX12_ruleLine_222 rfl (lv_at hl 7 rfl) ?_
                            refine va_get (D := G) (ci := 12) (v := .ref a_10) (C := RX12) (T := TX12) (N := 38) hx hb hts (mm_i inlX12) hown hK.1 hP 0 rfl rfl 20 (by decide) (mm_h hts mm_w152) (fun _ h9 => h9) rfl dX12_ruleLine_223 ?_
                            refine lv_iload_n hx hb dX12_ruleLine_226 rfl (lv_at hl 5 rfl) ?_
                            refine lv_iload hx hb dX12_ruleLine_227 (lv_at hl 0 rfl) ?_
                            refine lv_iadd hx hb dX12_ruleLine_229 ?_
                            refine lv_topi (fun v280 ev280 => ?_)
                            have rv280 : mm_rg v280 840 1049 := mm_add ev280 rv8 w266 (by decide) (by decide)
                            have tv280 := mm_addE ev280 rv8 w266 (by decide)
                            refine lv_iload hx hb dX12_ruleLine_230 (lv_at hl 2 rfl) ?_
                            refine va_iast hx hb hK.1 hP hD hS 4 1 rfl rfl (mm_in rv280 (by decide)) dX12_ruleLine_232 ?_
                            clear hP hD hS
                            clear H locs
                            obtain ⟨g281, eg281⟩ : ∃ z : Nat → Int32, z = upd g278 v280.toNatClampNeg v214 := ⟨_, rfl⟩
                            rw [← eg281]
                            intro H locs (hP : va_P G vwCl [(a_0, .inr (12, [.int i_0, .ref a_1, .ref a_2, .ref a_3, .ref a_4, .ref a_5, .int i_1, .int n249, .int n250, .int n251, .int n252, .long n253, .int n254, .int n255, .int i_8, .int i_9, .ref a_6, .ref a_7, .ref a_8, .ref a_9, .ref a_10, .ref a_11, .ref a_12, .ref a_13, .ref a_14, .ref a_15, .ref a_16, .ref a_17, .ref a_18, .int i_10, .int i_11, .int i_12, .int i_13, .int i_14, .int i_15, .ref a_19, .int i_16, .ref a_20])), (a_5, .inl (cy 0, 600, .inl f_0)), (a_7, .inl (cy 1, 30, .inl (mm_g [i_17, i_18, i_19, i_20, i_21, i_22, i_23, i_24, i_25, i_26, i_27, i_28, i_29, i_30, i_31, i_32, i_33, i_34, i_35, i_36, i_37, i_38, i_39, i_40, i_41, i_42, i_43, i_44, i_45, i_46]))), (a_9, .inl (cy 1, 15, .inl f_1)), (a_10, .inl (cy 1, 1050, .inl g281))] H) (hD : va_D A [(a_0, .inr (12, [.int i_0, .ref a_1, .ref a_2, .ref a_3, .ref a_4, .ref a_5, .int i_1, .int n249, .int n250, .int n251, .int n252, .long n253, .int n254, .int n255, .int i_8, .int i_9, .ref a_6, .ref a_7, .ref a_8, .ref a_9, .ref a_10, .ref a_11, .ref a_12, .ref a_13, .ref a_14, .ref a_15, .ref a_16, .ref a_17, .ref a_18, .int i_10, .int i_11, .int i_12, .int i_13, .int i_14, .int i_15, .ref a_19, .int i_16, .ref a_20])), (a_5, .inl (cy 0, 600, .inl f_0)), (a_7, .inl (cy 1, 30, .inl (mm_g [i_17, i_18, i_19, i_20, i_21, i_22, i_23, i_24, i_25, i_26, i_27, i_28, i_29, i_30, i_31, i_32, i_33, i_34, i_35, i_36, i_37, i_38, i_39, i_40, i_41, i_42, i_43, i_44, i_45, i_46]))), (a_9, .inl (cy 1, 15, .inl f_1)), (a_10, .inl (cy 1, 1050, .inl g281))]) hS
                            have rg281 : mm_ar g281 0 9 := by rw [eg281]; exact mm_ar_upd (mm_ar_wk rg278 (by decide)) (mm_wk w224 (by decide)) _
                            refine lv_goto (tgt := 243) hx hb dX12_ruleLine_233 (by decide) ?_
                            refine lv_aload_n hx hb dX12_ruleLine_243 rfl (lv_at hl 7 rfl) ?_
                            refine va_get (D := G) (ci := 12) (v := .ref a_9) (C := RX12) (T := TX12) (N := 38) hx hb hts (mm_i inlX12) hown hK.1 hP 0 rfl rfl 19 (by decide) (mm_h hts mm_w151) (fun _ h9 => h9) rfl dX12_ruleLine_244 ?_
                            refine lv_iload_n hx hb dX12_ruleLine_247 rfl (lv_at hl 6 rfl) ?_
                            refine lv_dup2_11 hx hb dX12_ruleLine_248 rfl rfl ?_
                            refine va_iald hx hb hK.1 hP 3 1 rfl rfl (mm_in rv3 (by decide)) dX12_ruleLine_249 ?_
                            refine lv_topi (fun v282 ev282 => ?_)
                            have rv282 : mm_rg v282 0 7 := mm_eqv ev282 (h36 _)
                            have q283 : mm_rg v282 0 6 := mm_rq_ld h45 ev282 rv282 h33 (by have := tv3; have := tv2; omega) (by decide)
                            obtain rfl : v5 = v282 := ev5.trans ev282.symm
                            refine lv_iconst (v := 1) hx hb dX12_ruleLine_250 (by decide) ?_
                            refine lv_iadd hx hb dX12_ruleLine_251 ?_
                            refine lv_topi (fun v284 ev284 => ?_)
                            have rv284 : mm_rg v284 1 7 := mm_add ev284 q6 mm_k1 (by decide) (by decide)
                            have tv284 := mm_addEc ev284 q6 mm_k1 (by decide) (k := 1) (by decide)
                            refine va_iast hx hb hK.1 hP hD hS 3 1 rfl rfl (mm_in rv3 (by decide)) dX12_ruleLine_252 ?_
                            clear hP hD hS
                            clear H locs
                            obtain ⟨g285, eg285⟩ : ∃ z : Nat → Int32, z = upd f_1 v3.toNatClampNeg v284 := ⟨_, rfl⟩
                            rw [← eg285]
                            intro H locs (hP : va_P G vwCl [(a_0, .inr (12, [.int i_0, .ref a_1, .ref a_2, .ref a_3, .ref a_4, .ref a_5, .int i_1, .int n249, .int n250, .int n251, .int n252, .long n253, .int n254, .int n255, .int i_8, .int i_9, .ref a_6, .ref a_7, .ref a_8, .ref a_9, .ref a_10, .ref a_11, .ref a_12, .ref a_13, .ref a_14, .ref a_15, .ref a_16, .ref a_17, .ref a_18, .int i_10, .int i_11, .int i_12, .int i_13, .int i_14, .int i_15, .ref a_19, .int i_16, .ref a_20])), (a_5, .inl (cy 0, 600, .inl f_0)), (a_7, .inl (cy 1, 30, .inl (mm_g [i_17, i_18, i_19, i_20, i_21, i_22, i_23, i_24, i_25, i_26, i_27, i_28, i_29, i_30, i_31, i_32, i_33, i_34, i_35, i_36, i_37, i_38, i_39, i_40, i_41, i_42, i_43, i_44, i_45, i_46]))), (a_9, .inl (cy 1, 15, .inl g285)), (a_10, .inl (cy 1, 1050, .inl g281))] H) (hD : va_D A [(a_0, .inr (12, [.int i_0, .ref a_1, .ref a_2, .ref a_3, .ref a_4, .ref a_5, .int i_1, .int n249, .int n250, .int n251, .int n252, .long n253, .int n254, .int n255, .int i_8, .int i_9, .ref a_6, .ref a_7, .ref a_8, .ref a_9, .ref a_10, .ref a_11, .ref a_12, .ref a_13, .ref a_14, .ref a_15, .ref a_16, .ref a_17, .ref a_18, .int i_10, .int i_11, .int i_12, .int i_13, .int i_14, .int i_15, .ref a_19, .int i_16, .ref a_20])), (a_5, .inl (cy 0, 600, .inl f_0)), (a_7, .inl (cy 1, 30, .inl (mm_g [i_17, i_18, i_19, i_20, i_21, i_22, i_23, i_24, i_25, i_26, i_27, i_28, i_29, i_30, i_31, i_32, i_33, i_34, i_35, i_36, i_37, i_38, i_39, i_40, i_41, i_42, i_43, i_44, i_45, i_46]))), (a_9, .inl (cy 1, 15, .inl g285)), (a_10, .inl (cy 1, 1050, .inl g281))]) hS
                            have rg285 : mm_ar g285 0 7 := by rw [eg285]; exact mm_ar_upd (mm_ar_wk h36 (by decide)) (mm_wk rv284 (by decide)) _
                            have w286 : mm_rls g285 g281 0 i_19 i_20 := (mm_rls_fr h38 (mm_fr_u (mm_fr_r _ _) eg285 rv3 (by decide)) (mm_fr_u (mm_fr_u (mm_fr_u w73 eg276 rv275 (by decide)) eg278 rv277 (by decide)) eg281 rv280 (by decide)) (by decide))
                            have w287 : mm_rls g285 g281 1 i_25 i_26 := (mm_rls_fr h39 (mm_fr_u (mm_fr_r _ _) eg285 rv3 (by decide)) (mm_fr_u (mm_fr_u (mm_fr_u w73 eg276 rv275 (by decide)) eg278 rv277 (by decide)) eg281 rv280 (by decide)) (by decide))
                            have w288 : mm_rls g285 g281 2 i_31 i_32 := (mm_rls_fr h40 (mm_fr_u (mm_fr_r _ _) eg285 rv3 (by decide)) (mm_fr_u (mm_fr_u (mm_fr_u w73 eg276 rv275 (by decide)) eg278 rv277 (by decide)) eg281 rv280 (by decide)) (by decide))
                            have w289 : mm_rls g285 g281 3 i_37 i_38 := (mm_rls_fr h41 (mm_fr_u (mm_fr_r _ _) eg285 rv3 (by decide)) (mm_fr_u (mm_fr_u (mm_fr_u w73 eg276 rv275 (by decide)) eg278 rv277 (by decide)) eg281 rv280 (by decide)) (by decide))
                            have w290 : (i_4 : Int32).toInt ≤ (n251 : Int32).toInt := (by have := h42; have := w206; have := w222; have := w242; have := w264; omega)
                            have w291 : mm_rls g285 g281 4 i_43 i_44 := (mm_rls_rule h46 eg285 (by have := tv3; have := tv2; omega) ev5 tv284 (by have := tv8; have := tv7; have := tv4; omega) (mm_ag_u (mm_ag_u (mm_ag_u w74 eg276 tv275 w224 rv8 (by decide)) eg278 tv277 w244 rv8 (by decide)) eg281 tv280 w266 rv8 (by decide)) (mm_pmr_tn (mm_idk_w w75 q78 (by decide)) eg276 tv275 eg278 tv277 eg281 tv280 w225 w245 w267 (mm_nq_ne w246 q272 (by decide)) (mm_nq_ne w268 q271 (by decide)) (mm_nq_ne w269 q271 (by decide)) h32 rv8 w224 w244 w266 (by decide)) h33 q6 (by decide))
                            have w292 : mm_fr f_1 g285 12 := (mm_fr_u (mm_fr_r _ _) eg285 rv3 (by decide))
                            have w293 : mm_fr f_2 g281 840 := (mm_fr_u (mm_fr_u (mm_fr_u w73 eg276 rv275 (by decide)) eg278 rv277 (by decide)) eg281 rv280 (by decide))
                            subst hAe
                            rw [hQ]
                            exact W.vret hx hb hr (fun t ht hW => ⟨⟨(n249, n250, n251, n252, n253, n254, n255, g285, g281), rfl, ⟨w257, w258, w259, (mm_wk q271 (by decide)), rg285, rg281, w286, w287, w288, w289, w261, w262, w263, w290, w291, w292, w293⟩, by rw [ht]; exact hP, hK.warm hW, hD⟩, hS.F ht⟩) hS.2.2 dX12_ruleLine_253
                        · have q294 := mm_neL (lo := 1) (mm_ne c270) w260 mm_k0 (by decide) (by decide)
                          have w295 : mm_rls f_1 z37_4_72 0 i_19 i_20 := (mm_rls_fr h38 (mm_fr_r _ _) w73 (by decide))
                          have w296 : mm_rls f_1 z37_4_72 1 i_25 i_26 := (mm_rls_fr h39 (mm_fr_r _ _) w73 (by decide))
                          have w297 : mm_rls f_1 z37_4_72 2 i_31 i_32 := (mm_rls_fr h40 (mm_fr_r _ _) w73 (by decide))
                          have w298 : mm_rls f_1 z37_4_72 3 i_37 i_38 := (mm_rls_fr h41 (mm_fr_r _ _) w73 (by decide))
                          have w299 : (i_4 : Int32).toInt ≤ (n251 : Int32).toInt := (by have := h42; have := w206; have := w222; have := w242; have := w264; omega)
                          have w300 : mm_rls f_1 z37_4_72 4 i_43 i_44 := (mm_rls_beg h46 (by have := tv3; have := tv2; omega) ev5 (by have := tv8; have := tv7; have := tv4; omega) w74 h33 q6 (by decide))
                          have w301 : mm_fr f_1 f_1 12 := (mm_fr_r _ _)
                          subst hAe
                          rw [hQ]
                          exact W.vret hx hb hr (fun t ht hW => ⟨⟨(n249, n250, n251, n252, n253, n254, n255, f_1, z37_4_72), rfl, ⟨w257, w258, w259, (mm_wk q294 (by decide)), h36, rz37_4_72, w295, w296, w297, w298, w261, w262, w263, w299, w300, w301, w73⟩, by rw [ht]; exact hP, hK.warm hW, hD⟩, hS.F ht⟩) hS.2.2 dX12_ruleLine_194
            · refine lv_if_ne (tgt := 138) hx hb dX12_ruleLine_125 (by decide) (fun c302 => ?_) (fun c302 => ?_)
              · refine lv_aload_n hx hb dX12_ruleLine_138 rfl (lv_at hl 4 rfl) ?_
                refine lv_ldc2 (v := 409469) hx hb hown (mm_h hts mm_w530) dX12_ruleLine_139 ?_
                refine mm_finir (va_runV (As := [.long 409469]) (rest := []) ⟨hx, hb, hml, hown, hts⟩ (M25_X12_is l G cy H.size a_0 409469 i_0 a_1 a_2 a_3 a_4 a_5 i_1 i_2 i_3 i_4 i_5 j_0 i_6 i_7 i_8 i_9 a_6 a_7 a_8 a_9 a_10 a_11 a_12 a_13 a_14 a_15 a_16 a_17 a_18 i_10 i_11 i_12 i_13 i_14 i_15 a_19 i_16 a_20 h2 h4) (cwV 1 hts (mm_gV mm_w479 mm_w480 mm_w481 mm_w5 mm_w482) rfl rfl rfl hd_X12_is ⟨by rw [hRf]; exact Nat.le_of_ble_eq_true rfl, by rw [hRl]; exact Nat.le_of_ble_eq_true rfl⟩) (mm_preV hK hZ hS hA hP hD [0] rfl rfl 0 rfl rfl rfl) rfl rfl hl.1 rfl (lv_room (Nat.le_of_ble_eq_true rfl)) dX12_ruleLine_142 ⟨by rw [hRc]; exact Nat.le_of_ble_eq_true rfl, by rw [hRs]; exact Nat.le_of_ble_eq_true rfl⟩) hP hD hS hA [0] rfl (fun _ => rfl) ?_
                clear hP hD hS
                clear H locs
                intro v303 _u H locs hw hP hD hS
                rcases hw with rfl | rfl
                · refine lv_istore (lv' := [(4, .int 0), (3, .int v10), (2, .int v8), (1, .int v3), (0, .ref a_0)]) hx hb dX12_ruleLine_145 hl (by decide) rfl ?_
                  clear hl
                  clear ls
                  intro ls hl
                  refine lv_aload_n hx hb dX12_ruleLine_147 rfl (lv_at hl 4 rfl) ?_
                  refine mm_finv (va_runV (As := []) (rest := []) ⟨hx, hb, hml, hown, hts⟩ (M22_X12_next l G cy H.size a_0 i_0 a_1 a_2 a_3 a_4 a_5 i_1 i_2 i_3 i_4 i_5 j_0 i_6 i_7 i_8 i_9 a_6 a_7 a_8 a_9 a_10 a_11 a_12 a_13 a_14 a_15 a_16 a_17 a_18 i_10 i_11 i_12 i_13 i_14 i_15 a_19 i_16 a_20 f_0 h0 h1 h2 h3 h5 h43) (cwV 0 hts (mm_gV mm_w451 mm_w452 mm_w453 mm_w5 mm_w454) rfl rfl rfl hd_X12_next ⟨by rw [hRf]; exact Nat.le_of_ble_eq_true rfl, by rw [hRl]; exact Nat.le_of_ble_eq_true rfl⟩) (mm_preV hK hZ hS hA hP hD [0, 1] rfl rfl 0 rfl rfl rfl) rfl rfl hl.1 rfl (lv_room (Nat.le_of_ble_eq_true rfl)) dX12_ruleLine_148 ⟨by rw [hRc]; exact Nat.le_of_ble_eq_true rfl, by rw [hRs]; exact Nat.le_of_ble_eq_true rfl⟩) hP hD hS hA (fun u : Int32 × Int32 × Int32 × Int32 × Int64 => [(a_0, .inr (12, [.int i_0, .ref a_1, .ref a_2, .ref a_3, .ref a_4, .ref a_5, .int i_1, .int u.1, .int u.2.1, .int u.2.2.1, .int u.2.2.2.1, .long u.2.2.2.2, .int i_6, .int i_7, .int i_8, .int i_9, .ref a_6, .ref a_7, .ref a_8, .ref a_9, .ref a_10, .ref a_11, .ref a_12, .ref a_13, .ref a_14, .ref a_15, .ref a_16, .ref a_17, .ref a_18, .int i_10, .int i_11, .int i_12, .int i_13, .int i_14, .int i_15, .ref a_19, .int i_16, .ref a_20])), (a_5, .inl (cy 0, 600, .inl f_0)), (a_7, .inl (cy 1, 30, .inl (mm_g [i_17, i_18, i_19, i_20, i_21, i_22, i_23, i_24, i_25, i_26, i_27, i_28, i_29, i_30, i_31, i_32, i_33, i_34, i_35, i_36, i_37, i_38, i_39, i_40, i_41, i_42, i_43, i_44, i_45, i_46]))), (a_9, .inl (cy 1, 15, .inl f_1)), (a_10, .inl (cy 1, 1050, .inl z37_4_72))]) [0, 1] [2, 3, 4] (n := 5) (fun _ => rfl) (by decide +kernel) (by decide +kernel) rfl (fun _ => rfl) (wr := [(a_7, .inl (cy 1, 30, .inl (mm_g [i_17, i_18, i_19, i_20, i_21, i_22, i_23, i_24, i_25, i_26, i_27, i_28, i_29, i_30, i_31, i_32, i_33, i_34, i_35, i_36, i_37, i_38, i_39, i_40, i_41, i_42, i_43, i_44, i_45, i_46]))), (a_9, .inl (cy 1, 15, .inl f_1)), (a_10, .inl (cy 1, 1050, .inl z37_4_72))]) rfl (fun _ => rfl) (fun _ => rfl) ?_
                  clear hP hD hS
                  clear H locs
                  intro u
                  obtain ⟨n304, n305, n306, n307, n308⟩ := u
                  intro H locs hw (hP : va_P G vwCl [(a_0, .inr (12, [.int i_0, .ref a_1, .ref a_2, .ref a_3, .ref a_4, .ref a_5, .int i_1, .int n304, .int n305, .int n306, .int n307, .long n308, .int i_6, .int i_7, .int i_8, .int i_9, .ref a_6, .ref a_7, .ref a_8, .ref a_9, .ref a_10, .ref a_11, .ref a_12, .ref a_13, .ref a_14, .ref a_15, .ref a_16, .ref a_17, .ref a_18, .int i_10, .int i_11, .int i_12, .int i_13, .int i_14, .int i_15, .ref a_19, .int i_16, .ref a_20])), (a_5, .inl (cy 0, 600, .inl f_0)), (a_7, .inl (cy 1, 30, .inl (mm_g [i_17, i_18, i_19, i_20, i_21, i_22, i_23, i_24, i_25, i_26, i_27, i_28, i_29, i_30, i_31, i_32, i_33, i_34, i_35, i_36, i_37, i_38, i_39, i_40, i_41, i_42, i_43, i_44, i_45, i_46]))), (a_9, .inl (cy 1, 15, .inl f_1)), (a_10, .inl (cy 1, 1050, .inl z37_4_72))] H) (hD : va_D A [(a_0, .inr (12, [.int i_0, .ref a_1, .ref a_2, .ref a_3, .ref a_4, .ref a_5, .int i_1, .int n304, .int n305, .int n306, .int n307, .long n308, .int i_6, .int i_7, .int i_8, .int i_9, .ref a_6, .ref a_7, .ref a_8, .ref a_9, .ref a_10, .ref a_11, .ref a_12, .ref a_13, .ref a_14, .ref a_15, .ref a_16, .ref a_17, .ref a_18, .int i_10, .int i_11, .int i_12, .int i_13, .int i_14, .int i_15, .ref a_19, .int i_16, .ref a_20])), (a_5, .inl (cy 0, 600, .inl f_0)), (a_7, .inl (cy 1, 30, .inl (mm_g [i_17, i_18, i_19, i_20, i_21, i_22, i_23, i_24, i_25, i_26, i_27, i_28, i_29, i_30, i_31, i_32, i_33, i_34, i_35, i_36, i_37, i_38, i_39, i_40, i_41, i_42, i_43, i_44, i_45, i_46]))), (a_9, .inl (cy 1, 15, .inl f_1)), (a_10, .inl (cy 1, 1050, .inl z37_4_72))]) hS
                  obtain ⟨w309, w310, w311, w312, w313, w314, w315⟩ := hw
                  replace w312 : (n306 : Int32).toInt ≤ (n304 : Int32).toInt := w312
                  replace w313 : (n304 : Int32).toInt ≤ (i_1 : Int32).toInt := w313
                  replace w314 : mm_tk n305 n306 n304 := w314
                  replace w315 : (i_2 : Int32).toInt ≤ (n306 : Int32).toInt := w315
                  refine lv_aload_n hx hb dX12_ruleLine_151 rfl (lv_at hl 4 rfl) ?_
                  refine mm_fini (va_runV (As := []) (rest := []) ⟨hx, hb, hml, hown, hts⟩ (M48_X12_wordHere l G cy H.size a_0 i_0 a_1 a_2 a_3 a_4 a_5 i_1 n304 n305 n306 n307 n308 i_6 i_7 i_8 i_9 a_6 a_7 a_8 a_9 a_10 a_11 a_12 a_13 a_14 a_15 a_16 a_17 a_18 i_10 i_11 i_12 i_13 i_14 i_15 a_19 i_16 a_20 f_0 i_17 i_18 i_19 i_20 i_21 i_22 i_23 i_24 i_25 i_26 i_27 i_28 i_29 i_30 i_31 i_32 i_33 i_34 i_35 i_36 i_37 i_38 i_39 i_40 i_41 i_42 i_43 i_44 i_45 i_46 h0 w309 w310 w311 h4 h5 h6 h7 h8 h9 h10 h11 h12 h13 h14 h15 h16 h17 h18 h19 h20 h21 h22 h23 h24 h25 h26 h27 h28 h29 h30 h31 h32 (mm_wk h33 (by decide)) h34 h35 w312 w313 w314) (cwV 0 hts (mm_gV mm_w532 mm_w533 mm_w534 mm_w5 mm_w535) rfl rfl rfl hd_X12_wordHere ⟨by rw [hRf]; exact Nat.le_of_ble_eq_true rfl, by rw [hRl]; exact Nat.le_of_ble_eq_true rfl⟩) (mm_preV hK hZ hS hA hP hD [0, 1, 2] rfl rfl 0 rfl rfl rfl) rfl rfl hl.1 rfl (lv_room (Nat.le_of_ble_eq_true rfl)) dX12_ruleLine_152 ⟨by rw [hRc]; exact Nat.le_of_ble_eq_true rfl, by rw [hRs]; exact Nat.le_of_ble_eq_true rfl⟩) hP hD hS hA (fun u : Int32 × Int32 × Int32 × Int32 × Int64 × Int32 × Int32 => [(a_0, .inr (12, [.int i_0, .ref a_1, .ref a_2, .ref a_3, .ref a_4, .ref a_5, .int i_1, .int u.1, .int u.2.1, .int u.2.2.1, .int u.2.2.2.1, .long u.2.2.2.2.1, .int u.2.2.2.2.2.1, .int u.2.2.2.2.2.2, .int i_8, .int i_9, .ref a_6, .ref a_7, .ref a_8, .ref a_9, .ref a_10, .ref a_11, .ref a_12, .ref a_13, .ref a_14, .ref a_15, .ref a_16, .ref a_17, .ref a_18, .int i_10, .int i_11, .int i_12, .int i_13, .int i_14, .int i_15, .ref a_19, .int i_16, .ref a_20])), (a_5, .inl (cy 0, 600, .inl f_0)), (a_7, .inl (cy 1, 30, .inl (mm_g [i_17, i_18, i_19, i_20, i_21, i_22, i_23, i_24, i_25, i_26, i_27, i_28, i_29, i_30, i_31, i_32, i_33, i_34, i_35, i_36, i_37, i_38, i_39, i_40, i_41, i_42, i_43, i_44, i_45, i_46]))), (a_9, .inl (cy 1, 15, .inl f_1)), (a_10, .inl (cy 1, 1050, .inl z37_4_72))]) [0, 1, 2] [3, 4] (n := 5) (fun _ => rfl) (by decide +kernel) (by decide +kernel) rfl (fun _ => rfl) (wr := [(a_9, .inl (cy 1, 15, .inl f_1)), (a_10, .inl (cy 1, 1050, .inl z37_4_72))]) rfl (fun _ => rfl) (fun _ => @rfl _ ([a_0, a_5, a_7] : List Nat)) ?_
                  clear hP hD hS
                  clear H locs
                  intro v323 u
                  obtain ⟨n316, n317, n318, n319, n320, n321, n322⟩ := u
                  intro H locs hw (hP : va_P G vwCl [(a_0, .inr (12, [.int i_0, .ref a_1, .ref a_2, .ref a_3, .ref a_4, .ref a_5, .int i_1, .int n316, .int n317, .int n318, .int n319, .long n320, .int n321, .int n322, .int i_8, .int i_9, .ref a_6, .ref a_7, .ref a_8, .ref a_9, .ref a_10, .ref a_11, .ref a_12, .ref a_13, .ref a_14, .ref a_15, .ref a_16, .ref a_17, .ref a_18, .int i_10, .int i_11, .int i_12, .int i_13, .int i_14, .int i_15, .ref a_19, .int i_16, .ref a_20])), (a_5, .inl (cy 0, 600, .inl f_0)), (a_7, .inl (cy 1, 30, .inl (mm_g [i_17, i_18, i_19, i_20, i_21, i_22, i_23, i_24, i_25, i_26, i_27, i_28, i_29, i_30, i_31, i_32, i_33, i_34, i_35, i_36, i_37, i_38, i_39, i_40, i_41, i_42, i_43, i_44, i_45, i_46]))), (a_9, .inl (cy 1, 15, .inl f_1)), (a_10, .inl (cy 1, 1050, .inl z37_4_72))] H) (hD : va_D A [(a_0, .inr (12, [.int i_0, .ref a_1, .ref a_2, .ref a_3, .ref a_4, .ref a_5, .int i_1, .int n316, .int n317, .int n318, .int n319, .long n320, .int n321, .int n322, .int i_8, .int i_9, .ref a_6, .ref a_7, .ref a_8, .ref a_9, .ref a_10, .ref a_11, .ref a_12, .ref a_13, .ref a_14, .ref a_15, .ref a_16, .ref a_17, .ref a_18, .int i_10, .int i_11, .int i_12, .int i_13, .int i_14, .int i_15, .ref a_19, .int i_16, .ref a_20])), (a_5, .inl (cy 0, 600, .inl f_0)), (a_7, .inl (cy 1, 30, .inl (mm_g [i_17, i_18, i_19, i_20, i_21, i_22, i_23, i_24, i_25, i_26, i_27, i_28, i_29, i_30, i_31, i_32, i_33, i_34, i_35, i_36, i_37, i_38, i_39, i_40, i_41, i_42, i_43, i_44, i_45, i_46]))), (a_9, .inl (cy 1, 15, .inl f_1)), (a_10, .inl (cy 1, 1050, .inl z37_4_72))]) hS
                  obtain ⟨w324, w325, w326, w327, w328, w329, w330, w331, w332, hw⟩ := hw
                  replace w328 : (n318 : Int32).toInt ≤ (n316 : Int32).toInt := w328
                  replace w329 : (n316 : Int32).toInt ≤ (i_1 : Int32).toInt := w329
                  replace w330 : mm_tk n317 n318 n316 := w330
                  replace w331 : (n306 : Int32).toInt ≤ (n318 : Int32).toInt := w331
                  replace w332 : mm_b0 i_6 n321 := w332
                  obtain ⟨w333, w334, w335⟩ := hw
                  replace w334 : (v323 : Int32).toInt ≤ (i_43 : Int32).toInt := w334
                  replace w335 : mm_nv n321 v323 n305 n307 := w335
                  refine lv_istore (lv' := [(5, .int v323), (4, .int 0), (3, .int v10), (2, .int v8), (1, .int v3), (0, .ref a_0)]) hx hb dX12_ruleLine_155 hl (by decide) rfl ?_
                  clear hl
                  clear ls
                  intro ls hl
                  refine lv_aload_n hx hb dX12_ruleLine_157 rfl (lv_at hl 5 rfl) ?_
                  refine lv_iload hx hb dX12_ruleLine_158 (lv_at hl 0 rfl) ?_
                  refine lv_iload hx hb dX12_ruleLine_160 (lv_at hl 0 rfl) ?_
                  refine mm_fini (va_runV (As := [.int v323, .int v323]) (rest := []) ⟨hx, hb, hml, hown, hts⟩ (M62_X12_otherWord l G cy H.size a_0 v323 v323 i_0 a_1 a_2 a_3 a_4 a_5 i_1 n316 n317 n318 n319 n320 n321 n322 i_8 i_9 a_6 a_7 a_8 a_9 a_10 a_11 a_12 a_13 a_14 a_15 a_16 a_17 a_18 i_10 i_11 i_12 i_13 i_14 i_15 a_19 i_16 a_20 f_0 i_17 i_18 i_19 i_20 i_21 i_22 i_23 i_24 i_25 i_26 i_27 i_28 i_29 i_30 i_31 i_32 i_33 i_34 i_35 i_36 i_37 i_38 i_39 i_40 i_41 i_42 i_43 i_44 i_45 i_46 w333 w333 h0 w324 w325 w326 w327 h5 h6 h7 h8 h9 h10 h11 h12 h13 h14 h15 h16 h17 h18 h19 h20 h21 h22 h23 h24 h25 h26 h27 h28 h29 h30 h31 h32 (mm_wk h33 (by decide)) h34 h35 w328 w329 w330) (cwV 2 hts (mm_gV mm_w536 mm_w537 mm_w538 mm_w5 mm_w539) rfl rfl rfl hd_X12_otherWord ⟨by rw [hRf]; exact Nat.le_of_ble_eq_true rfl, by rw [hRl]; exact Nat.le_of_ble_eq_true rfl⟩) (mm_preV hK hZ hS hA hP hD [0, 1, 2] rfl rfl 0 rfl rfl rfl) rfl rfl hl.1 rfl (lv_room (Nat.le_of_ble_eq_true rfl)) dX12_ruleLine_162 ⟨by rw [hRc]; exact Nat.le_of_ble_eq_true rfl, by rw [hRs]; exact Nat.le_of_ble_eq_true rfl⟩) hP hD hS hA (fun u : Int32 × Int32 × Int32 × Int32 × Int64 × Int32 × Int32 => [(a_0, .inr (12, [.int i_0, .ref a_1, .ref a_2, .ref a_3, .ref a_4, .ref a_5, .int i_1, .int u.1, .int u.2.1, .int u.2.2.1, .int u.2.2.2.1, .long u.2.2.2.2.1, .int u.2.2.2.2.2.1, .int u.2.2.2.2.2.2, .int i_8, .int i_9, .ref a_6, .ref a_7, .ref a_8, .ref a_9, .ref a_10, .ref a_11, .ref a_12, .ref a_13, .ref a_14, .ref a_15, .ref a_16, .ref a_17, .ref a_18, .int i_10, .int i_11, .int i_12, .int i_13, .int i_14, .int i_15, .ref a_19, .int i_16, .ref a_20])), (a_5, .inl (cy 0, 600, .inl f_0)), (a_7, .inl (cy 1, 30, .inl (mm_g [i_17, i_18, i_19, i_20, i_21, i_22, i_23, i_24, i_25, i_26, i_27, i_28, i_29, i_30, i_31, i_32, i_33, i_34, i_35, i_36, i_37, i_38, i_39, i_40, i_41, i_42, i_43, i_44, i_45, i_46]))), (a_9, .inl (cy 1, 15, .inl f_1)), (a_10, .inl (cy 1, 1050, .inl z37_4_72))]) [0, 1, 2] [3, 4] (n := 5) (fun _ => rfl) (by decide +kernel) (by decide +kernel) rfl (fun _ => rfl) (wr := [(a_9, .inl (cy 1, 15, .inl f_1)), (a_10, .inl (cy 1, 1050, .inl z37_4_72))]) rfl (fun _ => rfl) (fun _ => @rfl _ ([a_0, a_5, a_7] : List Nat)) ?_
                  clear hP hD hS
                  clear H locs
                  intro v343 u
                  obtain ⟨n336, n337, n338, n339, n340, n341, n342⟩ := u
                  intro H locs hw (hP : va_P G vwCl [(a_0, .inr (12, [.int i_0, .ref a_1, .ref a_2, .ref a_3, .ref a_4, .ref a_5, .int i_1, .int n336, .int n337, .int n338, .int n339, .long n340, .int n341, .int n342, .int i_8, .int i_9, .ref a_6, .ref a_7, .ref a_8, .ref a_9, .ref a_10, .ref a_11, .ref a_12, .ref a_13, .ref a_14, .ref a_15, .ref a_16, .ref a_17, .ref a_18, .int i_10, .int i_11, .int i_12, .int i_13, .int i_14, .int i_15, .ref a_19, .int i_16, .ref a_20])), (a_5, .inl (cy 0, 600, .inl f_0)), (a_7, .inl (cy 1, 30, .inl (mm_g [i_17, i_18, i_19, i_20, i_21, i_22, i_23, i_24, i_25, i_26, i_27, i_28, i_29, i_30, i_31, i_32, i_33, i_34, i_35, i_36, i_37, i_38, i_39, i_40, i_41, i_42, i_43, i_44, i_45, i_46]))), (a_9, .inl (cy 1, 15, .inl f_1)), (a_10, .inl (cy 1, 1050, .inl z37_4_72))] H) (hD : va_D A [(a_0, .inr (12, [.int i_0, .ref a_1, .ref a_2, .ref a_3, .ref a_4, .ref a_5, .int i_1, .int n336, .int n337, .int n338, .int n339, .long n340, .int n341, .int n342, .int i_8, .int i_9, .ref a_6, .ref a_7, .ref a_8, .ref a_9, .ref a_10, .ref a_11, .ref a_12, .ref a_13, .ref a_14, .ref a_15, .ref a_16, .ref a_17, .ref a_18, .int i_10, .int i_11, .int i_12, .int i_13, .int i_14, .int i_15, .ref a_19, .int i_16, .ref a_20])), (a_5, .inl (cy 0, 600, .inl f_0)), (a_7, .inl (cy 1, 30, .inl (mm_g [i_17, i_18, i_19, i_20, i_21, i_22, i_23, i_24, i_25, i_26, i_27, i_28, i_29, i_30, i_31, i_32, i_33, i_34, i_35, i_36, i_37, i_38, i_39, i_40, i_41, i_42, i_43, i_44, i_45, i_46]))), (a_9, .inl (cy 1, 15, .inl f_1)), (a_10, .inl (cy 1, 1050, .inl z37_4_72))]) hS
                  obtain ⟨w344, w345, w346, w347, w348, w349, w350, w351, w352, hw⟩ := hw
                  replace w348 : (n338 : Int32).toInt ≤ (n336 : Int32).toInt := w348
                  replace w349 : (n336 : Int32).toInt ≤ (i_1 : Int32).toInt := w349
                  replace w350 : mm_tk n337 n338 n336 := w350
                  replace w351 : (n318 : Int32).toInt ≤ (n338 : Int32).toInt := w351
                  replace w352 : mm_b0 n321 n341 := w352
                  obtain ⟨w353, w354, w355, w356⟩ := hw
                  replace w354 : (v343 : Int32).toInt ≤ (i_43 : Int32).toInt := w354
                  replace w355 : mm_nq n341 v343 v323 := w355
                  replace w356 : mm_nq n341 v343 v323 := w356
                  refine lv_istore (lv' := [(6, .int v343), (5, .int v323), (4, .int 0), (3, .int v10), (2, .int v8), (1, .int v3), (0, .ref a_0)]) hx hb dX12_ruleLine_165 hl (by decide) rfl ?_
                  clear hl
                  clear ls
                  intro ls hl
                  refine lv_iload hx hb dX12_ruleLine_167 (lv_at hl 2 rfl) ?_
                  refine lv_if_eq (tgt := 183) hx hb dX12_ruleLine_169 (by decide) (fun c357 => ?_) (fun c357 => ?_)
                  · refine lv_iload hx hb dX12_ruleLine_183 (lv_at hl 1 rfl) ?_
                    refine lv_istore (lv' := [(7, .int v323), (6, .int v343), (5, .int v323), (4, .int 0), (3, .int v10), (2, .int v8), (1, .int v3), (0, .ref a_0)]) hx hb dX12_ruleLine_185 hl (by decide) rfl ?_
                    clear hl
                    clear ls
                    intro ls hl
                    refine lv_aload_n hx hb dX12_ruleLine_187 rfl (lv_at hl 7 rfl) ?_
                    refine va_get (D := G) (ci := 12) (v := .int n341) (C := RX12) (T := TX12) (N := 38) hx hb hts (mm_i inlX12) hown hK.1 hP 0 rfl rfl 12 (by decide) (mm_h hts mm_w436) (fun _ h9 => h9) rfl dX12_ruleLine_188 ?_
                    refine lv_if_eq (tgt := 195) hx hb dX12_ruleLine_191 (by decide) (fun c358 => ?_) (fun c358 => ?_)
                    · have q359 := mm_eqI (lo := 0) (hi := 0) c358 w347 mm_k0 (by decide)
                      have q360 : mm_rg n321 0 0 := mm_b0_d w352 q359 (by decide)
                      have q361 : mm_rg i_6 0 0 := mm_b0_d w332 q360 (by decide)
                      refine lv_aload_n hx hb dX12_ruleLine_195 rfl (lv_at hl 7 rfl) ?_
                      refine va_get (D := G) (ci := 12) (v := .ref a_10) (C := RX12) (T := TX12) (N := 38) hx hb hts (mm_i inlX12) hown hK.1 hP 0 rfl rfl 20 (by decide) (mm_h hts mm_w152) (fun _ h9 => h9) rfl dX12_ruleLine_196 ?_
                      refine lv_iload_n hx hb dX12_ruleLine_199 rfl (lv_at hl 5 rfl) ?_
                      refine lv_iload hx hb dX12_ruleLine_200 (lv_at hl 2 rfl) ?_
                      refine lv_iadd hx hb dX12_ruleLine_202 ?_
                      refine lv_topi (fun v362 ev362 => ?_)
                      have rv362 : mm_rg v362 840 1049 := mm_add ev362 rv8 w333 (by decide) (by decide)
                      have tv362 := mm_addE ev362 rv8 w333 (by decide)
                      refine lv_iload hx hb dX12_ruleLine_203 (lv_at hl 1 rfl) ?_
                      refine va_iast hx hb hK.1 hP hD hS 4 1 rfl rfl (mm_in rv362 (by decide)) dX12_ruleLine_205 ?_
                      clear hP hD hS
                      clear H locs
                      obtain ⟨g363, eg363⟩ : ∃ z : Nat → Int32, z = upd z37_4_72 v362.toNatClampNeg v343 := ⟨_, rfl⟩
                      rw [← eg363]
                      intro H locs (hP : va_P G vwCl [(a_0, .inr (12, [.int i_0, .ref a_1, .ref a_2, .ref a_3, .ref a_4, .ref a_5, .int i_1, .int n336, .int n337, .int n338, .int n339, .long n340, .int n341, .int n342, .int i_8, .int i_9, .ref a_6, .ref a_7, .ref a_8, .ref a_9, .ref a_10, .ref a_11, .ref a_12, .ref a_13, .ref a_14, .ref a_15, .ref a_16, .ref a_17, .ref a_18, .int i_10, .int i_11, .int i_12, .int i_13, .int i_14, .int i_15, .ref a_19, .int i_16, .ref a_20])), (a_5, .inl (cy 0, 600, .inl f_0)), (a_7, .inl (cy 1, 30, .inl (mm_g [i_17, i_18, i_19, i_20, i_21, i_22, i_23, i_24, i_25, i_26, i_27, i_28, i_29, i_30, i_31, i_32, i_33, i_34, i_35, i_36, i_37, i_38, i_39, i_40, i_41, i_42, i_43, i_44, i_45, i_46]))), (a_9, .inl (cy 1, 15, .inl f_1)), (a_10, .inl (cy 1, 1050, .inl g363))] H) (hD : va_D A [(a_0, .inr (12, [.int i_0, .ref a_1, .ref a_2, .ref a_3, .ref a_4, .ref a_5, .int i_1, .int n336, .int n337, .int n338, .int n339, .long n340, .int n341, .int n342, .int i_8, .int i_9, .ref a_6, .ref a_7, .ref a_8, .ref a_9, .ref a_10, .ref a_11, .ref a_12, .ref a_13, .ref a_14, .ref a_15, .ref a_16, .ref a_17, .ref a_18, .int i_10, .int i_11, .int i_12, .int i_13, .int i_14, .int i_15, .ref a_19, .int i_16, .ref a_20])), (a_5, .inl (cy 0, 600, .inl f_0)), (a_7, .inl (cy 1, 30, .inl (mm_g [i_17, i_18, i_19, i_20, i_21, i_22, i_23, i_24, i_25, i_26, i_27, i_28, i_29, i_30, i_31, i_32, i_33, i_34, i_35, i_36, i_37, i_38, i_39, i_40, i_41, i_42, i_43, i_44, i_45, i_46]))), (a_9, .inl (cy 1, 15, .inl f_1)), (a_10, .inl (cy 1, 1050, .inl g363))]) hS
                      have rg363 : mm_ar g363 0 9 := by rw [eg363]; exact mm_ar_upd (mm_ar_wk rz37_4_72 (by decide)) (mm_wk w353 (by decide)) _
                      refine lv_aload_n hx hb dX12_ruleLine_206 rfl (lv_at hl 7 rfl) ?_
                      refine va_get (D := G) (ci := 12) (v := .ref a_10) (C := RX12) (T := TX12) (N := 38) hx hb hts (mm_i inlX12) hown hK.1 hP 0 rfl rfl 20 (by decide) (mm_h hts mm_w152) (fun _ h9 => h9) rfl dX12_ruleLine_207 ?_
                      refine lv_iload_n hx hb dX12_ruleLine_210 rfl (lv_at hl 5 rfl) ?_
                      refine lv_iload hx hb dX12_ruleLine_211 (lv_at hl 1 rfl) ?_
                      refine lv_iadd hx hb dX12_ruleLine_213 ?_
                      refine lv_topi (fun v364 ev364 => ?_)
                      have rv364 : mm_rg v364 840 1049 := mm_add ev364 rv8 w353 (by decide) (by decide)
                      have tv364 := mm_addE ev364 rv8 w353 (by decide)
                      refine lv_iload hx hb dX12_ruleLine_214 (lv_at hl 0 rfl) ?_
                      refine va_iast hx hb hK.1 hP hD hS 4 1 rfl rfl (mm_in rv364 (by decide)) dX12_ruleLine_216 ?_
                      clear hP hD hS
                      clear H locs
                      obtain ⟨g365, eg365⟩ : ∃ z : Nat → Int32, z = upd g363 v364.toNatClampNeg v323 := ⟨_, rfl⟩
                      rw [← eg365]
                      intro H locs (hP : va_P G vwCl [(a_0, .inr (12, [.int i_0, .ref a_1, .ref a_2, .ref a_3, .ref a_4, .ref a_5, .int i_1, .int n336, .int n337, .int n338, .int n339, .long n340, .int n341, .int n342, .int i_8, .int i_9, .ref a_6, .ref a_7, .ref a_8, .ref a_9, .ref a_10, .ref a_11, .ref a_12, .ref a_13, .ref a_14, .ref a_15, .ref a_16, .ref a_17, .ref a_18, .int i_10, .int i_11, .int i_12, .int i_13, .int i_14, .int i_15, .ref a_19, .int i_16, .ref a_20])), (a_5, .inl (cy 0, 600, .inl f_0)), (a_7, .inl (cy 1, 30, .inl (mm_g [i_17, i_18, i_19, i_20, i_21, i_22, i_23, i_24, i_25, i_26, i_27, i_28, i_29, i_30, i_31, i_32, i_33, i_34, i_35, i_36, i_37, i_38, i_39, i_40, i_41, i_42, i_43, i_44, i_45, i_46]))), (a_9, .inl (cy 1, 15, .inl f_1)), (a_10, .inl (cy 1, 1050, .inl g365))] H) (hD : va_D A [(a_0, .inr (12, [.int i_0, .ref a_1, .ref a_2, .ref a_3, .ref a_4, .ref a_5, .int i_1, .int n336, .int n337, .int n338, .int n339, .long n340, .int n341, .int n342, .int i_8, .int i_9, .ref a_6, .ref a_7, .ref a_8, .ref a_9, .ref a_10, .ref a_11, .ref a_12, .ref a_13, .ref a_14, .ref a_15, .ref a_16, .ref a_17, .ref a_18, .int i_10, .int i_11, .int i_12, .int i_13, .int i_14, .int i_15, .ref a_19, .int i_16, .ref a_20])), (a_5, .inl (cy 0, 600, .inl f_0)), (a_7, .inl (cy 1, 30, .inl (mm_g [i_17, i_18, i_19, i_20, i_21, i_22, i_23, i_24, i_25, i_26, i_27, i_28, i_29, i_30, i_31, i_32, i_33, i_34, i_35, i_36, i_37, i_38, i_39, i_40, i_41, i_42, i_43, i_44, i_45, i_46]))), (a_9, .inl (cy 1, 15, .inl f_1)), (a_10, .inl (cy 1, 1050, .inl g365))]) hS
                      have rg365 : mm_ar g365 0 9 := by rw [eg365]; exact mm_ar_upd (mm_ar_wk rg363 (by decide)) (mm_wk w333 (by decide)) _
                      refine lv_iload hx hb dX12_ruleLine_217 (lv_at hl 3 rfl) ?_
                      refine lv_if_eq (tgt := 233) hx hb dX12_ruleLine_219 (by decide) (fun c366 => ?_) (fun c366 => ?_)
                      · refine lv_goto (tgt := 243) hx hb dX12_ruleLine_233 (by decide) ?_
                        refine lv_aload_n hx hb dX12_ruleLine_243 rfl (lv_at hl 7 rfl) ?_
                        refine va_get (D := G) (ci := 12) (v := .ref a_9) (C := RX12) (T := TX12) (N := 38) hx hb hts (mm_i inlX12) hown hK.1 hP 0 rfl rfl 19 (by decide) (mm_h hts mm_w151) (fun _ h9 => h9) rfl dX12_ruleLine_244 ?_
                        refine lv_iload_n hx hb dX12_ruleLine_247 rfl (lv_at hl 6 rfl) ?_
                        refine lv_dup2_11 hx hb dX12_ruleLine_248 rfl rfl ?_
                        refine va_iald hx hb hK.1 hP 3 1 rfl rfl (mm_in rv3 (by decide)) dX12_ruleLine_249 ?_
                        refine lv_topi (fun v367 ev367 => ?_)
                        have rv367 : mm_rg v367 0 7 := mm_eqv ev367 (h36 _)
                        have q368 : mm_rg v367 0 6 := mm_rq_ld h45 ev367 rv367 h33 (by have := tv3; have := tv2; omega) (by decide)
                        obtain rfl : v5 = v367 := ev5.trans ev367.symm
                        refine lv_iconst (v := 1) hx hb dX12_ruleLine_250 (by decide) ?_
                        refine lv_iadd hx hb dX12_ruleLine_251 ?_
                        refine lv_topi (fun v369 ev369 => ?_)
                        have rv369 : mm_rg v369 1 7 := mm_add ev369 q6 mm_k1 (by decide) (by decide)
                        have tv369 := mm_addEc ev369 q6 mm_k1 (by decide) (k := 1) (by decide)
                        refine va_iast hx hb hK.1 hP hD hS 3 1 rfl rfl (mm_in rv3 (by decide)) dX12_ruleLine_252 ?_
                        clear hP hD hS
                        clear H locs
                        obtain ⟨g370, eg370⟩ : ∃ z : Nat → Int32, z = upd f_1 v3.toNatClampNeg v369 := ⟨_, rfl⟩
                        rw [← eg370]
                        intro H locs (hP : va_P G vwCl [(a_0, .inr (12, [.int i_0, .ref a_1, .ref a_2, .ref a_3, .ref a_4, .ref a_5, .int i_1, .int n336, .int n337, .int n338, .int n339, .long n340, .int n341, .int n342, .int i_8, .int i_9, .ref a_6, .ref a_7, .ref a_8, .ref a_9, .ref a_10, .ref a_11, .ref a_12, .ref a_13, .ref a_14, .ref a_15, .ref a_16, .ref a_17, .ref a_18, .int i_10, .int i_11, .int i_12, .int i_13, .int i_14, .int i_15, .ref a_19, .int i_16, .ref a_20])), (a_5, .inl (cy 0, 600, .inl f_0)), (a_7, .inl (cy 1, 30, .inl (mm_g [i_17, i_18, i_19, i_20, i_21, i_22, i_23, i_24, i_25, i_26, i_27, i_28, i_29, i_30, i_31, i_32, i_33, i_34, i_35, i_36, i_37, i_38, i_39, i_40, i_41, i_42, i_43, i_44, i_45, i_46]))), (a_9, .inl (cy 1, 15, .inl g370)), (a_10, .inl (cy 1, 1050, .inl g365))] H) (hD : va_D A [(a_0, .inr (12, [.int i_0, .ref a_1, .ref a_2, .ref a_3, .ref a_4, .ref a_5, .int i_1, .int n336, .int n337, .int n338, .int n339, .long n340, .int n341, .int n342, .int i_8, .int i_9, .ref a_6, .ref a_7, .ref a_8, .ref a_9, .ref a_10, .ref a_11, .ref a_12, .ref a_13, .ref a_14, .ref a_15, .ref a_16, .ref a_17, .ref a_18, .int i_10, .int i_11, .int i_12, .int i_13, .int i_14, .int i_15, .ref a_19, .int i_16, .ref a_20])), (a_5, .inl (cy 0, 600, .inl f_0)), (a_7, .inl (cy 1, 30, .inl (mm_g [i_17, i_18, i_19, i_20, i_21, i_22, i_23, i_24, i_25, i_26, i_27, i_28, i_29, i_30, i_31, i_32, i_33, i_34, i_35, i_36, i_37, i_38, i_39, i_40, i_41, i_42, i_43, i_44, i_45, i_46]))), (a_9, .inl (cy 1, 15, .inl g370)), (a_10, .inl (cy 1, 1050, .inl g365))]) hS
                        have rg370 : mm_ar g370 0 7 := by rw [eg370]; exact mm_ar_upd (mm_ar_wk h36 (by decide)) (mm_wk rv369 (by decide)) _
                        have w371 : mm_rls g370 g365 0 i_19 i_20 := (mm_rls_fr h38 (mm_fr_u (mm_fr_r _ _) eg370 rv3 (by decide)) (mm_fr_u (mm_fr_u w73 eg363 rv362 (by decide)) eg365 rv364 (by decide)) (by decide))
                        have w372 : mm_rls g370 g365 1 i_25 i_26 := (mm_rls_fr h39 (mm_fr_u (mm_fr_r _ _) eg370 rv3 (by decide)) (mm_fr_u (mm_fr_u w73 eg363 rv362 (by decide)) eg365 rv364 (by decide)) (by decide))
                        have w373 : mm_rls g370 g365 2 i_31 i_32 := (mm_rls_fr h40 (mm_fr_u (mm_fr_r _ _) eg370 rv3 (by decide)) (mm_fr_u (mm_fr_u w73 eg363 rv362 (by decide)) eg365 rv364 (by decide)) (by decide))
                        have w374 : mm_rls g370 g365 3 i_37 i_38 := (mm_rls_fr h41 (mm_fr_u (mm_fr_r _ _) eg370 rv3 (by decide)) (mm_fr_u (mm_fr_u w73 eg363 rv362 (by decide)) eg365 rv364 (by decide)) (by decide))
                        have w375 : (i_4 : Int32).toInt ≤ (n338 : Int32).toInt := (by have := h42; have := w315; have := w331; have := w351; omega)
                        have w376 : mm_rls g370 g365 4 i_43 i_44 := (mm_rls_rule h46 eg370 (by have := tv3; have := tv2; omega) ev5 tv369 (by have := tv8; have := tv7; have := tv4; omega) (mm_ag_u (mm_ag_u w74 eg363 tv362 w333 rv8 (by decide)) eg365 tv364 w353 rv8 (by decide)) (mm_pmr_sw (mm_idk_w w75 q78 (by decide)) eg363 tv362 eg365 tv364 w334 w354 (mm_nq_ne w355 q359 (by decide)) h32 rv8 w333 w353 (by decide)) h33 q6 (by decide))
                        have w377 : mm_fr f_1 g370 12 := (mm_fr_u (mm_fr_r _ _) eg370 rv3 (by decide))
                        have w378 : mm_fr f_2 g365 840 := (mm_fr_u (mm_fr_u w73 eg363 rv362 (by decide)) eg365 rv364 (by decide))
                        subst hAe
                        rw [hQ]
                        exact W.vret hx hb hr (fun t ht hW => ⟨⟨(n336, n337, n338, n339, n340, n341, n342, g370, g365), rfl, ⟨w344, w345, w346, (mm_wk q359 (by decide)), rg370, rg365, w371, w372, w373, w374, w348, w349, w350, w375, w376, w377, w378⟩, by rw [ht]; exact hP, hK.warm hW, hD⟩, hS.F ht⟩) hS.2.2 dX12_ruleLine_253
                      · exact absurd rfl (mm_ne c366)
                    · have q379 := mm_neL (lo := 1) (mm_ne c358) w347 mm_k0 (by decide) (by decide)
                      have w380 : mm_rls f_1 z37_4_72 0 i_19 i_20 := (mm_rls_fr h38 (mm_fr_r _ _) w73 (by decide))
                      have w381 : mm_rls f_1 z37_4_72 1 i_25 i_26 := (mm_rls_fr h39 (mm_fr_r _ _) w73 (by decide))
                      have w382 : mm_rls f_1 z37_4_72 2 i_31 i_32 := (mm_rls_fr h40 (mm_fr_r _ _) w73 (by decide))
                      have w383 : mm_rls f_1 z37_4_72 3 i_37 i_38 := (mm_rls_fr h41 (mm_fr_r _ _) w73 (by decide))
                      have w384 : (i_4 : Int32).toInt ≤ (n338 : Int32).toInt := (by have := h42; have := w315; have := w331; have := w351; omega)
                      have w385 : mm_rls f_1 z37_4_72 4 i_43 i_44 := (mm_rls_beg h46 (by have := tv3; have := tv2; omega) ev5 (by have := tv8; have := tv7; have := tv4; omega) w74 h33 q6 (by decide))
                      have w386 : mm_fr f_1 f_1 12 := (mm_fr_r _ _)
                      subst hAe
                      rw [hQ]
                      exact W.vret hx hb hr (fun t ht hW => ⟨⟨(n336, n337, n338, n339, n340, n341, n342, f_1, z37_4_72), rfl, ⟨w344, w345, w346, (mm_wk q379 (by decide)), h36, rz37_4_72, w380, w381, w382, w383, w348, w349, w350, w384, w385, w386, w73⟩, by rw [ht]; exact hP, hK.warm hW, hD⟩, hS.F ht⟩) hS.2.2 dX12_ruleLine_194
                  · exact absurd rfl (mm_ne c357)
                · refine lv_istore (lv' := [(4, .int 1), (3, .int v10), (2, .int v8), (1, .int v3), (0, .ref a_0)]) hx hb dX12_ruleLine_145 hl (by decide) rfl ?_
                  clear hl
                  clear ls
                  intro ls hl
                  refine lv_aload_n hx hb dX12_ruleLine_147 rfl (lv_at hl 4 rfl) ?_
                  refine mm_finv (va_runV (As := []) (rest := []) ⟨hx, hb, hml, hown, hts⟩ (M22_X12_next l G cy H.size a_0 i_0 a_1 a_2 a_3 a_4 a_5 i_1 i_2 i_3 i_4 i_5 j_0 i_6 i_7 i_8 i_9 a_6 a_7 a_8 a_9 a_10 a_11 a_12 a_13 a_14 a_15 a_16 a_17 a_18 i_10 i_11 i_12 i_13 i_14 i_15 a_19 i_16 a_20 f_0 h0 h1 h2 h3 h5 h43) (cwV 0 hts (mm_gV mm_w451 mm_w452 mm_w453 mm_w5 mm_w454) rfl rfl rfl hd_X12_next ⟨by rw [hRf]; exact Nat.le_of_ble_eq_true rfl, by rw [hRl]; exact Nat.le_of_ble_eq_true rfl⟩) (mm_preV hK hZ hS hA hP hD [0, 1] rfl rfl 0 rfl rfl rfl) rfl rfl hl.1 rfl (lv_room (Nat.le_of_ble_eq_true rfl)) dX12_ruleLine_148 ⟨by rw [hRc]; exact Nat.le_of_ble_eq_true rfl, by rw [hRs]; exact Nat.le_of_ble_eq_true rfl⟩) hP hD hS hA (fun u : Int32 × Int32 × Int32 × Int32 × Int64 => [(a_0, .inr (12, [.int i_0, .ref a_1, .ref a_2, .ref a_3, .ref a_4, .ref a_5, .int i_1, .int u.1, .int u.2.1, .int u.2.2.1, .int u.2.2.2.1, .long u.2.2.2.2, .int i_6, .int i_7, .int i_8, .int i_9, .ref a_6, .ref a_7, .ref a_8, .ref a_9, .ref a_10, .ref a_11, .ref a_12, .ref a_13, .ref a_14, .ref a_15, .ref a_16, .ref a_17, .ref a_18, .int i_10, .int i_11, .int i_12, .int i_13, .int i_14, .int i_15, .ref a_19, .int i_16, .ref a_20])), (a_5, .inl (cy 0, 600, .inl f_0)), (a_7, .inl (cy 1, 30, .inl (mm_g [i_17, i_18, i_19, i_20, i_21, i_22, i_23, i_24, i_25, i_26, i_27, i_28, i_29, i_30, i_31, i_32, i_33, i_34, i_35, i_36, i_37, i_38, i_39, i_40, i_41, i_42, i_43, i_44, i_45, i_46]))), (a_9, .inl (cy 1, 15, .inl f_1)), (a_10, .inl (cy 1, 1050, .inl z37_4_72))]) [0, 1] [2, 3, 4] (n := 5) (fun _ => rfl) (by decide +kernel) (by decide +kernel) rfl (fun _ => rfl) (wr := [(a_7, .inl (cy 1, 30, .inl (mm_g [i_17, i_18, i_19, i_20, i_21, i_22, i_23, i_24, i_25, i_26, i_27, i_28, i_29, i_30, i_31, i_32, i_33, i_34, i_35, i_36, i_37, i_38, i_39, i_40, i_41, i_42, i_43, i_44, i_45, i_46]))), (a_9, .inl (cy 1, 15, .inl f_1)), (a_10, .inl (cy 1, 1050, .inl z37_4_72))]) rfl (fun _ => rfl) (fun _ => rfl) ?_
                  clear hP hD hS
                  clear H locs
                  intro u
                  obtain ⟨n387, n388, n389, n390, n391⟩ := u
                  intro H locs hw (hP : va_P G vwCl [(a_0, .inr (12, [.int i_0, .ref a_1, .ref a_2, .ref a_3, .ref a_4, .ref a_5, .int i_1, .int n387, .int n388, .int n389, .int n390, .long n391, .int i_6, .int i_7, .int i_8, .int i_9, .ref a_6, .ref a_7, .ref a_8, .ref a_9, .ref a_10, .ref a_11, .ref a_12, .ref a_13, .ref a_14, .ref a_15, .ref a_16, .ref a_17, .ref a_18, .int i_10, .int i_11, .int i_12, .int i_13, .int i_14, .int i_15, .ref a_19, .int i_16, .ref a_20])), (a_5, .inl (cy 0, 600, .inl f_0)), (a_7, .inl (cy 1, 30, .inl (mm_g [i_17, i_18, i_19, i_20, i_21, i_22, i_23, i_24, i_25, i_26, i_27, i_28, i_29, i_30, i_31, i_32, i_33, i_34, i_35, i_36, i_37, i_38, i_39, i_40, i_41, i_42, i_43, i_44, i_45, i_46]))), (a_9, .inl (cy 1, 15, .inl f_1)), (a_10, .inl (cy 1, 1050, .inl z37_4_72))] H) (hD : va_D A [(a_0, .inr (12, [.int i_0, .ref a_1, .ref a_2, .ref a_3, .ref a_4, .ref a_5, .int i_1, .int n387, .int n388, .int n389, .int n390, .long n391, .int i_6, .int i_7, .int i_8, .int i_9, .ref a_6, .ref a_7, .ref a_8, .ref a_9, .ref a_10, .ref a_11, .ref a_12, .ref a_13, .ref a_14, .ref a_15, .ref a_16, .ref a_17, .ref a_18, .int i_10, .int i_11, .int i_12, .int i_13, .int i_14, .int i_15, .ref a_19, .int i_16, .ref a_20])), (a_5, .inl (cy 0, 600, .inl f_0)), (a_7, .inl (cy 1, 30, .inl (mm_g [i_17, i_18, i_19, i_20, i_21, i_22, i_23, i_24, i_25, i_26, i_27, i_28, i_29, i_30, i_31, i_32, i_33, i_34, i_35, i_36, i_37, i_38, i_39, i_40, i_41, i_42, i_43, i_44, i_45, i_46]))), (a_9, .inl (cy 1, 15, .inl f_1)), (a_10, .inl (cy 1, 1050, .inl z37_4_72))]) hS
                  obtain ⟨w392, w393, w394, w395, w396, w397, w398⟩ := hw
                  replace w395 : (n389 : Int32).toInt ≤ (n387 : Int32).toInt := w395
                  replace w396 : (n387 : Int32).toInt ≤ (i_1 : Int32).toInt := w396
                  replace w397 : mm_tk n388 n389 n387 := w397
                  replace w398 : (i_2 : Int32).toInt ≤ (n389 : Int32).toInt := w398
                  refine lv_aload_n hx hb dX12_ruleLine_151 rfl (lv_at hl 4 rfl) ?_
                  refine mm_fini (va_runV (As := []) (rest := []) ⟨hx, hb, hml, hown, hts⟩ (M48_X12_wordHere l G cy H.size a_0 i_0 a_1 a_2 a_3 a_4 a_5 i_1 n387 n388 n389 n390 n391 i_6 i_7 i_8 i_9 a_6 a_7 a_8 a_9 a_10 a_11 a_12 a_13 a_14 a_15 a_16 a_17 a_18 i_10 i_11 i_12 i_13 i_14 i_15 a_19 i_16 a_20 f_0 i_17 i_18 i_19 i_20 i_21 i_22 i_23 i_24 i_25 i_26 i_27 i_28 i_29 i_30 i_31 i_32 i_33 i_34 i_35 i_36 i_37 i_38 i_39 i_40 i_41 i_42 i_43 i_44 i_45 i_46 h0 w392 w393 w394 h4 h5 h6 h7 h8 h9 h10 h11 h12 h13 h14 h15 h16 h17 h18 h19 h20 h21 h22 h23 h24 h25 h26 h27 h28 h29 h30 h31 h32 (mm_wk h33 (by decide)) h34 h35 w395 w396 w397) (cwV 0 hts (mm_gV mm_w532 mm_w533 mm_w534 mm_w5 mm_w535) rfl rfl rfl hd_X12_wordHere ⟨by rw [hRf]; exact Nat.le_of_ble_eq_true rfl, by rw [hRl]; exact Nat.le_of_ble_eq_true rfl⟩) (mm_preV hK hZ hS hA hP hD [0, 1, 2] rfl rfl 0 rfl rfl rfl) rfl rfl hl.1 rfl (lv_room (Nat.le_of_ble_eq_true rfl)) dX12_ruleLine_152 ⟨by rw [hRc]; exact Nat.le_of_ble_eq_true rfl, by rw [hRs]; exact Nat.le_of_ble_eq_true rfl⟩) hP hD hS hA (fun u : Int32 × Int32 × Int32 × Int32 × Int64 × Int32 × Int32 => [(a_0, .inr (12, [.int i_0, .ref a_1, .ref a_2, .ref a_3, .ref a_4, .ref a_5, .int i_1, .int u.1, .int u.2.1, .int u.2.2.1, .int u.2.2.2.1, .long u.2.2.2.2.1, .int u.2.2.2.2.2.1, .int u.2.2.2.2.2.2, .int i_8, .int i_9, .ref a_6, .ref a_7, .ref a_8, .ref a_9, .ref a_10, .ref a_11, .ref a_12, .ref a_13, .ref a_14, .ref a_15, .ref a_16, .ref a_17, .ref a_18, .int i_10, .int i_11, .int i_12, .int i_13, .int i_14, .int i_15, .ref a_19, .int i_16, .ref a_20])), (a_5, .inl (cy 0, 600, .inl f_0)), (a_7, .inl (cy 1, 30, .inl (mm_g [i_17, i_18, i_19, i_20, i_21, i_22, i_23, i_24, i_25, i_26, i_27, i_28, i_29, i_30, i_31, i_32, i_33, i_34, i_35, i_36, i_37, i_38, i_39, i_40, i_41, i_42, i_43, i_44, i_45, i_46]))), (a_9, .inl (cy 1, 15, .inl f_1)), (a_10, .inl (cy 1, 1050, .inl z37_4_72))]) [0, 1, 2] [3, 4] (n := 5) (fun _ => rfl) (by decide +kernel) (by decide +kernel) rfl (fun _ => rfl) (wr := [(a_9, .inl (cy 1, 15, .inl f_1)), (a_10, .inl (cy 1, 1050, .inl z37_4_72))]) rfl (fun _ => rfl) (fun _ => @rfl _ ([a_0, a_5, a_7] : List Nat)) ?_
                  clear hP hD hS
                  clear H locs
                  intro v406 u
                  obtain ⟨n399, n400, n401, n402, n403, n404, n405⟩ := u
                  intro H locs hw (hP : va_P G vwCl [(a_0, .inr (12, [.int i_0, .ref a_1, .ref a_2, .ref a_3, .ref a_4, .ref a_5, .int i_1, .int n399, .int n400, .int n401, .int n402, .long n403, .int n404, .int n405, .int i_8, .int i_9, .ref a_6, .ref a_7, .ref a_8, .ref a_9, .ref a_10, .ref a_11, .ref a_12, .ref a_13, .ref a_14, .ref a_15, .ref a_16, .ref a_17, .ref a_18, .int i_10, .int i_11, .int i_12, .int i_13, .int i_14, .int i_15, .ref a_19, .int i_16, .ref a_20])), (a_5, .inl (cy 0, 600, .inl f_0)), (a_7, .inl (cy 1, 30, .inl (mm_g [i_17, i_18, i_19, i_20, i_21, i_22, i_23, i_24, i_25, i_26, i_27, i_28, i_29, i_30, i_31, i_32, i_33, i_34, i_35, i_36, i_37, i_38, i_39, i_40, i_41, i_42, i_43, i_44, i_45, i_46]))), (a_9, .inl (cy 1, 15, .inl f_1)), (a_10, .inl (cy 1, 1050, .inl z37_4_72))] H) (hD : va_D A [(a_0, .inr (12, [.int i_0, .ref a_1, .ref a_2, .ref a_3, .ref a_4, .ref a_5, .int i_1, .int n399, .int n400, .int n401, .int n402, .long n403, .int n404, .int n405, .int i_8, .int i_9, .ref a_6, .ref a_7, .ref a_8, .ref a_9, .ref a_10, .ref a_11, .ref a_12, .ref a_13, .ref a_14, .ref a_15, .ref a_16, .ref a_17, .ref a_18, .int i_10, .int i_11, .int i_12, .int i_13, .int i_14, .int i_15, .ref a_19, .int i_16, .ref a_20])), (a_5, .inl (cy 0, 600, .inl f_0)), (a_7, .inl (cy 1, 30, .inl (mm_g [i_17, i_18, i_19, i_20, i_21, i_22, i_23, i_24, i_25, i_26, i_27, i_28, i_29, i_30, i_31, i_32, i_33, i_34, i_35, i_36, i_37, i_38, i_39, i_40, i_41, i_42, i_43, i_44, i_45, i_46]))), (a_9, .inl (cy 1, 15, .inl f_1)), (a_10, .inl (cy 1, 1050, .inl z37_4_72))]) hS
                  obtain ⟨w407, w408, w409, w410, w411, w412, w413, w414, w415, hw⟩ := hw
                  replace w411 : (n401 : Int32).toInt ≤ (n399 : Int32).toInt := w411
                  replace w412 : (n399 : Int32).toInt ≤ (i_1 : Int32).toInt := w412
                  replace w413 : mm_tk n400 n401 n399 := w413
                  replace w414 : (n389 : Int32).toInt ≤ (n401 : Int32).toInt := w414
                  replace w415 : mm_b0 i_6 n404 := w415
                  obtain ⟨w416, w417, w418⟩ := hw
                  replace w417 : (v406 : Int32).toInt ≤ (i_43 : Int32).toInt := w417
                  replace w418 : mm_nv n404 v406 n388 n390 := w418
                  refine lv_istore (lv' := [(5, .int v406), (4, .int 1), (3, .int v10), (2, .int v8), (1, .int v3), (0, .ref a_0)]) hx hb dX12_ruleLine_155 hl (by decide) rfl ?_
                  clear hl
                  clear ls
                  intro ls hl
                  refine lv_aload_n hx hb dX12_ruleLine_157 rfl (lv_at hl 5 rfl) ?_
                  refine lv_iload hx hb dX12_ruleLine_158 (lv_at hl 0 rfl) ?_
                  refine lv_iload hx hb dX12_ruleLine_160 (lv_at hl 0 rfl) ?_
                  refine mm_fini (va_runV (As := [.int v406, .int v406]) (rest := []) ⟨hx, hb, hml, hown, hts⟩ (M62_X12_otherWord l G cy H.size a_0 v406 v406 i_0 a_1 a_2 a_3 a_4 a_5 i_1 n399 n400 n401 n402 n403 n404 n405 i_8 i_9 a_6 a_7 a_8 a_9 a_10 a_11 a_12 a_13 a_14 a_15 a_16 a_17 a_18 i_10 i_11 i_12 i_13 i_14 i_15 a_19 i_16 a_20 f_0 i_17 i_18 i_19 i_20 i_21 i_22 i_23 i_24 i_25 i_26 i_27 i_28 i_29 i_30 i_31 i_32 i_33 i_34 i_35 i_36 i_37 i_38 i_39 i_40 i_41 i_42 i_43 i_44 i_45 i_46 w416 w416 h0 w407 w408 w409 w410 h5 h6 h7 h8 h9 h10 h11 h12 h13 h14 h15 h16 h17 h18 h19 h20 h21 h22 h23 h24 h25 h26 h27 h28 h29 h30 h31 h32 (mm_wk h33 (by decide)) h34 h35 w411 w412 w413) (cwV 2 hts (mm_gV mm_w536 mm_w537 mm_w538 mm_w5 mm_w539) rfl rfl rfl hd_X12_otherWord ⟨by rw [hRf]; exact Nat.le_of_ble_eq_true rfl, by rw [hRl]; exact Nat.le_of_ble_eq_true rfl⟩) (mm_preV hK hZ hS hA hP hD [0, 1, 2] rfl rfl 0 rfl rfl rfl) rfl rfl hl.1 rfl (lv_room (Nat.le_of_ble_eq_true rfl)) dX12_ruleLine_162 ⟨by rw [hRc]; exact Nat.le_of_ble_eq_true rfl, by rw [hRs]; exact Nat.le_of_ble_eq_true rfl⟩) hP hD hS hA (fun u : Int32 × Int32 × Int32 × Int32 × Int64 × Int32 × Int32 => [(a_0, .inr (12, [.int i_0, .ref a_1, .ref a_2, .ref a_3, .ref a_4, .ref a_5, .int i_1, .int u.1, .int u.2.1, .int u.2.2.1, .int u.2.2.2.1, .long u.2.2.2.2.1, .int u.2.2.2.2.2.1, .int u.2.2.2.2.2.2, .int i_8, .int i_9, .ref a_6, .ref a_7, .ref a_8, .ref a_9, .ref a_10, .ref a_11, .ref a_12, .ref a_13, .ref a_14, .ref a_15, .ref a_16, .ref a_17, .ref a_18, .int i_10, .int i_11, .int i_12, .int i_13, .int i_14, .int i_15, .ref a_19, .int i_16, .ref a_20])), (a_5, .inl (cy 0, 600, .inl f_0)), (a_7, .inl (cy 1, 30, .inl (mm_g [i_17, i_18, i_19, i_20, i_21, i_22, i_23, i_24, i_25, i_26, i_27, i_28, i_29, i_30, i_31, i_32, i_33, i_34, i_35, i_36, i_37, i_38, i_39, i_40, i_41, i_42, i_43, i_44, i_45, i_46]))), (a_9, .inl (cy 1, 15, .inl f_1)), (a_10, .inl (cy 1, 1050, .inl z37_4_72))]) [0, 1, 2] [3, 4] (n := 5) (fun _ => rfl) (by decide +kernel) (by decide +kernel) rfl (fun _ => rfl) (wr := [(a_9, .inl (cy 1, 15, .inl f_1)), (a_10, .inl (cy 1, 1050, .inl z37_4_72))]) rfl (fun _ => rfl) (fun _ => @rfl _ ([a_0, a_5, a_7] : List Nat)) ?_
                  clear hP hD hS
                  clear H locs
                  intro v426 u
                  obtain ⟨n419, n420, n421, n422, n423, n424, n425⟩ := u
                  intro H locs hw (hP : va_P G vwCl [(a_0, .inr (12, [.int i_0, .ref a_1, .ref a_2, .ref a_3, .ref a_4, .ref a_5, .int i_1, .int n419, .int n420, .int n421, .int n422, .long n423, .int n424, .int n425, .int i_8, .int i_9, .ref a_6, .ref a_7, .ref a_8, .ref a_9, .ref a_10, .ref a_11, .ref a_12, .ref a_13, .ref a_14, .ref a_15, .ref a_16, .ref a_17, .ref a_18, .int i_10, .int i_11, .int i_12, .int i_13, .int i_14, .int i_15, .ref a_19, .int i_16, .ref a_20])), (a_5, .inl (cy 0, 600, .inl f_0)), (a_7, .inl (cy 1, 30, .inl (mm_g [i_17, i_18, i_19, i_20, i_21, i_22, i_23, i_24, i_25, i_26, i_27, i_28, i_29, i_30, i_31, i_32, i_33, i_34, i_35, i_36, i_37, i_38, i_39, i_40, i_41, i_42, i_43, i_44, i_45, i_46]))), (a_9, .inl (cy 1, 15, .inl f_1)), (a_10, .inl (cy 1, 1050, .inl z37_4_72))] H) (hD : va_D A [(a_0, .inr (12, [.int i_0, .ref a_1, .ref a_2, .ref a_3, .ref a_4, .ref a_5, .int i_1, .int n419, .int n420, .int n421, .int n422, .long n423, .int n424, .int n425, .int i_8, .int i_9, .ref a_6, .ref a_7, .ref a_8, .ref a_9, .ref a_10, .ref a_11, .ref a_12, .ref a_13, .ref a_14, .ref a_15, .ref a_16, .ref a_17, .ref a_18, .int i_10, .int i_11, .int i_12, .int i_13, .int i_14, .int i_15, .ref a_19, .int i_16, .ref a_20])), (a_5, .inl (cy 0, 600, .inl f_0)), (a_7, .inl (cy 1, 30, .inl (mm_g [i_17, i_18, i_19, i_20, i_21, i_22, i_23, i_24, i_25, i_26, i_27, i_28, i_29, i_30, i_31, i_32, i_33, i_34, i_35, i_36, i_37, i_38, i_39, i_40, i_41, i_42, i_43, i_44, i_45, i_46]))), (a_9, .inl (cy 1, 15, .inl f_1)), (a_10, .inl (cy 1, 1050, .inl z37_4_72))]) hS
                  obtain ⟨w427, w428, w429, w430, w431, w432, w433, w434, w435, hw⟩ := hw
                  replace w431 : (n421 : Int32).toInt ≤ (n419 : Int32).toInt := w431
                  replace w432 : (n419 : Int32).toInt ≤ (i_1 : Int32).toInt := w432
                  replace w433 : mm_tk n420 n421 n419 := w433
                  replace w434 : (n401 : Int32).toInt ≤ (n421 : Int32).toInt := w434
                  replace w435 : mm_b0 n404 n424 := w435
                  obtain ⟨w436, w437, w438, w439⟩ := hw
                  replace w437 : (v426 : Int32).toInt ≤ (i_43 : Int32).toInt := w437
                  replace w438 : mm_nq n424 v426 v406 := w438
                  replace w439 : mm_nq n424 v426 v406 := w439
                  refine lv_istore (lv' := [(6, .int v426), (5, .int v406), (4, .int 1), (3, .int v10), (2, .int v8), (1, .int v3), (0, .ref a_0)]) hx hb dX12_ruleLine_165 hl (by decide) rfl ?_
                  clear hl
                  clear ls
                  intro ls hl
                  refine lv_iload hx hb dX12_ruleLine_167 (lv_at hl 2 rfl) ?_
                  refine lv_if_eq (tgt := 183) hx hb dX12_ruleLine_169 (by decide) (fun c440 => ?_) (fun c440 => ?_)
                  · exact mm_eqN c440.symm mm_k0 mm_k1 (by decide)
                  · refine lv_aload_n hx hb dX12_ruleLine_172 rfl (lv_at hl 6 rfl) ?_
                    refine lv_iload hx hb dX12_ruleLine_173 (lv_at hl 1 rfl) ?_
                    refine lv_iload hx hb dX12_ruleLine_175 (lv_at hl 0 rfl) ?_
                    refine mm_fini (va_runV (As := [.int v406, .int v426]) (rest := []) ⟨hx, hb, hml, hown, hts⟩ (M62_X12_otherWord l G cy H.size a_0 v406 v426 i_0 a_1 a_2 a_3 a_4 a_5 i_1 n419 n420 n421 n422 n423 n424 n425 i_8 i_9 a_6 a_7 a_8 a_9 a_10 a_11 a_12 a_13 a_14 a_15 a_16 a_17 a_18 i_10 i_11 i_12 i_13 i_14 i_15 a_19 i_16 a_20 f_0 i_17 i_18 i_19 i_20 i_21 i_22 i_23 i_24 i_25 i_26 i_27 i_28 i_29 i_30 i_31 i_32 i_33 i_34 i_35 i_36 i_37 i_38 i_39 i_40 i_41 i_42 i_43 i_44 i_45 i_46 w416 w436 h0 w427 w428 w429 w430 h5 h6 h7 h8 h9 h10 h11 h12 h13 h14 h15 h16 h17 h18 h19 h20 h21 h22 h23 h24 h25 h26 h27 h28 h29 h30 h31 h32 (mm_wk h33 (by decide)) h34 h35 w431 w432 w433) (cwV 2 hts (mm_gV mm_w536 mm_w537 mm_w538 mm_w5 mm_w539) rfl rfl rfl hd_X12_otherWord ⟨by rw [hRf]; exact Nat.le_of_ble_eq_true rfl, by rw [hRl]; exact Nat.le_of_ble_eq_true rfl⟩) (mm_preV hK hZ hS hA hP hD [0, 1, 2] rfl rfl 0 rfl rfl rfl) rfl rfl hl.1 rfl (lv_room (Nat.le_of_ble_eq_true rfl)) dX12_ruleLine_177 ⟨by rw [hRc]; exact Nat.le_of_ble_eq_true rfl, by rw [hRs]; exact Nat.le_of_ble_eq_true rfl⟩) hP hD hS hA (fun u : Int32 × Int32 × Int32 × Int32 × Int64 × Int32 × Int32 => [(a_0, .inr (12, [.int i_0, .ref a_1, .ref a_2, .ref a_3, .ref a_4, .ref a_5, .int i_1, .int u.1, .int u.2.1, .int u.2.2.1, .int u.2.2.2.1, .long u.2.2.2.2.1, .int u.2.2.2.2.2.1, .int u.2.2.2.2.2.2, .int i_8, .int i_9, .ref a_6, .ref a_7, .ref a_8, .ref a_9, .ref a_10, .ref a_11, .ref a_12, .ref a_13, .ref a_14, .ref a_15, .ref a_16, .ref a_17, .ref a_18, .int i_10, .int i_11, .int i_12, .int i_13, .int i_14, .int i_15, .ref a_19, .int i_16, .ref a_20])), (a_5, .inl (cy 0, 600, .inl f_0)), (a_7, .inl (cy 1, 30, .inl (mm_g [i_17, i_18, i_19, i_20, i_21, i_22, i_23, i_24, i_25, i_26, i_27, i_28, i_29, i_30, i_31, i_32, i_33, i_34, i_35, i_36, i_37, i_38, i_39, i_40, i_41, i_42, i_43, i_44, i_45, i_46]))), (a_9, .inl (cy 1, 15, .inl f_1)), (a_10, .inl (cy 1, 1050, .inl z37_4_72))]) [0, 1, 2] [3, 4] (n := 5) (fun _ => rfl) (by decide +kernel) (by decide +kernel) rfl (fun _ => rfl) (wr := [(a_9, .inl (cy 1, 15, .inl f_1)), (a_10, .inl (cy 1, 1050, .inl z37_4_72))]) rfl (fun _ => rfl) (fun _ => @rfl _ ([a_0, a_5, a_7] : List Nat)) ?_
                    clear hP hD hS
                    clear H locs
                    intro v448 u
                    obtain ⟨n441, n442, n443, n444, n445, n446, n447⟩ := u
                    intro H locs hw (hP : va_P G vwCl [(a_0, .inr (12, [.int i_0, .ref a_1, .ref a_2, .ref a_3, .ref a_4, .ref a_5, .int i_1, .int n441, .int n442, .int n443, .int n444, .long n445, .int n446, .int n447, .int i_8, .int i_9, .ref a_6, .ref a_7, .ref a_8, .ref a_9, .ref a_10, .ref a_11, .ref a_12, .ref a_13, .ref a_14, .ref a_15, .ref a_16, .ref a_17, .ref a_18, .int i_10, .int i_11, .int i_12, .int i_13, .int i_14, .int i_15, .ref a_19, .int i_16, .ref a_20])), (a_5, .inl (cy 0, 600, .inl f_0)), (a_7, .inl (cy 1, 30, .inl (mm_g [i_17, i_18, i_19, i_20, i_21, i_22, i_23, i_24, i_25, i_26, i_27, i_28, i_29, i_30, i_31, i_32, i_33, i_34, i_35, i_36, i_37, i_38, i_39, i_40, i_41, i_42, i_43, i_44, i_45, i_46]))), (a_9, .inl (cy 1, 15, .inl f_1)), (a_10, .inl (cy 1, 1050, .inl z37_4_72))] H) (hD : va_D A [(a_0, .inr (12, [.int i_0, .ref a_1, .ref a_2, .ref a_3, .ref a_4, .ref a_5, .int i_1, .int n441, .int n442, .int n443, .int n444, .long n445, .int n446, .int n447, .int i_8, .int i_9, .ref a_6, .ref a_7, .ref a_8, .ref a_9, .ref a_10, .ref a_11, .ref a_12, .ref a_13, .ref a_14, .ref a_15, .ref a_16, .ref a_17, .ref a_18, .int i_10, .int i_11, .int i_12, .int i_13, .int i_14, .int i_15, .ref a_19, .int i_16, .ref a_20])), (a_5, .inl (cy 0, 600, .inl f_0)), (a_7, .inl (cy 1, 30, .inl (mm_g [i_17, i_18, i_19, i_20, i_21, i_22, i_23, i_24, i_25, i_26, i_27, i_28, i_29, i_30, i_31, i_32, i_33, i_34, i_35, i_36, i_37, i_38, i_39, i_40, i_41, i_42, i_43, i_44, i_45, i_46]))), (a_9, .inl (cy 1, 15, .inl f_1)), (a_10, .inl (cy 1, 1050, .inl z37_4_72))]) hS
                    obtain ⟨w449, w450, w451, w452, w453, w454, w455, w456, w457, hw⟩ := hw
                    replace w453 : (n443 : Int32).toInt ≤ (n441 : Int32).toInt := w453
                    replace w454 : (n441 : Int32).toInt ≤ (i_1 : Int32).toInt := w454
                    replace w455 : mm_tk n442 n443 n441 := w455
                    replace w456 : (n421 : Int32).toInt ≤ (n443 : Int32).toInt := w456
                    replace w457 : mm_b0 n424 n446 := w457
                    obtain ⟨w458, w459, w460, w461⟩ := hw
                    replace w459 : (v448 : Int32).toInt ≤ (i_43 : Int32).toInt := w459
                    replace w460 : mm_nq n446 v448 v406 := w460
                    replace w461 : mm_nq n446 v448 v426 := w461
                    refine lv_goto (tgt := 185) hx hb dX12_ruleLine_180 (by decide) ?_
                    refine lv_istore (lv' := [(7, .int v448), (6, .int v426), (5, .int v406), (4, .int 1), (3, .int v10), (2, .int v8), (1, .int v3), (0, .ref a_0)]) hx hb dX12_ruleLine_185 hl (by decide) rfl ?_
                    clear hl
                    clear ls
                    intro ls hl
                    refine lv_aload_n hx hb dX12_ruleLine_187 rfl (lv_at hl 7 rfl) ?_
                    refine va_get (D := G) (ci := 12) (v := .int n446) (C := RX12) (T := TX12) (N := 38) hx hb hts (mm_i inlX12) hown hK.1 hP 0 rfl rfl 12 (by decide) (mm_h hts mm_w436) (fun _ h9 => h9) rfl dX12_ruleLine_188 ?_
                    refine lv_if_eq (tgt := 195) hx hb dX12_ruleLine_191 (by decide) (fun c462 => ?_) (fun c462 => ?_)
                    · have q463 := mm_eqI (lo := 0) (hi := 0) c462 w452 mm_k0 (by decide)
                      have q464 : mm_rg n424 0 0 := mm_b0_d w457 q463 (by decide)
                      have q465 : mm_rg n404 0 0 := mm_b0_d w435 q464 (by decide)
                      have q466 : mm_rg i_6 0 0 := mm_b0_d w415 q465 (by decide)
                      refine lv_aload_n hx hb dX12_ruleLine_195 rfl (lv_at hl 7 rfl) ?_
                      refine va_get (D := G) (ci := 12) (v := .ref a_10) (C := RX12) (T := TX12) (N := 38) hx hb hts (mm_i inlX12) hown hK.1 hP 0 rfl rfl 20 (by decide) (mm_h hts mm_w152) (fun _ h9 => h9) rfl dX12_ruleLine_196 ?_
                      refine lv_iload_n hx hb dX12_ruleLine_199 rfl (lv_at hl 5 rfl) ?_
                      refine lv_iload hx hb dX12_ruleLine_200 (lv_at hl 2 rfl) ?_
                      refine lv_iadd hx hb dX12_ruleLine_202 ?_
                      refine lv_topi (fun v467 ev467 => ?_)
                      have rv467 : mm_rg v467 840 1049 := mm_add ev467 rv8 w416 (by decide) (by decide)
                      have tv467 := mm_addE ev467 rv8 w416 (by decide)
                      refine lv_iload hx hb dX12_ruleLine_203 (lv_at hl 1 rfl) ?_
                      refine va_iast hx hb hK.1 hP hD hS 4 1 rfl rfl (mm_in rv467 (by decide)) dX12_ruleLine_205 ?_
                      clear hP hD hS
                      clear H locs
                      obtain ⟨g468, eg468⟩ : ∃ z : Nat → Int32, z = upd z37_4_72 v467.toNatClampNeg v426 := ⟨_, rfl⟩
                      rw [← eg468]
                      intro H locs (hP : va_P G vwCl [(a_0, .inr (12, [.int i_0, .ref a_1, .ref a_2, .ref a_3, .ref a_4, .ref a_5, .int i_1, .int n441, .int n442, .int n443, .int n444, .long n445, .int n446, .int n447, .int i_8, .int i_9, .ref a_6, .ref a_7, .ref a_8, .ref a_9, .ref a_10, .ref a_11, .ref a_12, .ref a_13, .ref a_14, .ref a_15, .ref a_16, .ref a_17, .ref a_18, .int i_10, .int i_11, .int i_12, .int i_13, .int i_14, .int i_15, .ref a_19, .int i_16, .ref a_20])), (a_5, .inl (cy 0, 600, .inl f_0)), (a_7, .inl (cy 1, 30, .inl (mm_g [i_17, i_18, i_19, i_20, i_21, i_22, i_23, i_24, i_25, i_26, i_27, i_28, i_29, i_30, i_31, i_32, i_33, i_34, i_35, i_36, i_37, i_38, i_39, i_40, i_41, i_42, i_43, i_44, i_45, i_46]))), (a_9, .inl (cy 1, 15, .inl f_1)), (a_10, .inl (cy 1, 1050, .inl g468))] H) (hD : va_D A [(a_0, .inr (12, [.int i_0, .ref a_1, .ref a_2, .ref a_3, .ref a_4, .ref a_5, .int i_1, .int n441, .int n442, .int n443, .int n444, .long n445, .int n446, .int n447, .int i_8, .int i_9, .ref a_6, .ref a_7, .ref a_8, .ref a_9, .ref a_10, .ref a_11, .ref a_12, .ref a_13, .ref a_14, .ref a_15, .ref a_16, .ref a_17, .ref a_18, .int i_10, .int i_11, .int i_12, .int i_13, .int i_14, .int i_15, .ref a_19, .int i_16, .ref a_20])), (a_5, .inl (cy 0, 600, .inl f_0)), (a_7, .inl (cy 1, 30, .inl (mm_g [i_17, i_18, i_19, i_20, i_21, i_22, i_23, i_24, i_25, i_26, i_27, i_28, i_29, i_30, i_31, i_32, i_33, i_34, i_35, i_36, i_37, i_38, i_39, i_40, i_41, i_42, i_43, i_44, i_45, i_46]))), (a_9, .inl (cy 1, 15, .inl f_1)), (a_10, .inl (cy 1, 1050, .inl g468))]) hS
                      have rg468 : mm_ar g468 0 9 := by rw [eg468]; exact mm_ar_upd (mm_ar_wk rz37_4_72 (by decide)) (mm_wk w436 (by decide)) _
                      refine lv_aload_n hx hb dX12_ruleLine_206 rfl (lv_at hl 7 rfl) ?_
                      refine va_get (D := G) (ci := 12) (v := .ref a_10) (C := RX12) (T := TX12) (N := 38) hx hb hts (mm_i inlX12) hown hK.1 hP 0 rfl rfl 20 (by decide) (mm_h hts mm_w152) (fun _ h9 => h9) rfl dX12_ruleLine_207 ?_
                      refine lv_iload_n hx hb dX12_ruleLine_210 rfl (lv_at hl 5 rfl) ?_
                      refine lv_iload hx hb dX12_ruleLine_211 (lv_at hl 1 rfl) ?_
                      refine lv_iadd hx hb dX12_ruleLine_213 ?_
                      refine lv_topi (fun v469 ev469 => ?_)
                      have rv469 : mm_rg v469 840 1049 := mm_add ev469 rv8 w436 (by decide) (by decide)
                      have tv469 := mm_addE ev469 rv8 w436 (by decide)
                      refine lv_iload hx hb dX12_ruleLine_214 (lv_at hl 0 rfl) ?_
                      refine va_iast hx hb hK.1 hP hD hS 4 1 rfl rfl (mm_in rv469 (by decide)) dX12_ruleLine_216 ?_
                      clear hP hD hS
                      clear H locs
                      obtain ⟨g470, eg470⟩ : ∃ z : Nat → Int32, z = upd g468 v469.toNatClampNeg v448 := ⟨_, rfl⟩
                      rw [← eg470]
                      intro H locs (hP : va_P G vwCl [(a_0, .inr (12, [.int i_0, .ref a_1, .ref a_2, .ref a_3, .ref a_4, .ref a_5, .int i_1, .int n441, .int n442, .int n443, .int n444, .long n445, .int n446, .int n447, .int i_8, .int i_9, .ref a_6, .ref a_7, .ref a_8, .ref a_9, .ref a_10, .ref a_11, .ref a_12, .ref a_13, .ref a_14, .ref a_15, .ref a_16, .ref a_17, .ref a_18, .int i_10, .int i_11, .int i_12, .int i_13, .int i_14, .int i_15, .ref a_19, .int i_16, .ref a_20])), (a_5, .inl (cy 0, 600, .inl f_0)), (a_7, .inl (cy 1, 30, .inl (mm_g [i_17, i_18, i_19, i_20, i_21, i_22, i_23, i_24, i_25, i_26, i_27, i_28, i_29, i_30, i_31, i_32, i_33, i_34, i_35, i_36, i_37, i_38, i_39, i_40, i_41, i_42, i_43, i_44, i_45, i_46]))), (a_9, .inl (cy 1, 15, .inl f_1)), (a_10, .inl (cy 1, 1050, .inl g470))] H) (hD : va_D A [(a_0, .inr (12, [.int i_0, .ref a_1, .ref a_2, .ref a_3, .ref a_4, .ref a_5, .int i_1, .int n441, .int n442, .int n443, .int n444, .long n445, .int n446, .int n447, .int i_8, .int i_9, .ref a_6, .ref a_7, .ref a_8, .ref a_9, .ref a_10, .ref a_11, .ref a_12, .ref a_13, .ref a_14, .ref a_15, .ref a_16, .ref a_17, .ref a_18, .int i_10, .int i_11, .int i_12, .int i_13, .int i_14, .int i_15, .ref a_19, .int i_16, .ref a_20])), (a_5, .inl (cy 0, 600, .inl f_0)), (a_7, .inl (cy 1, 30, .inl (mm_g [i_17, i_18, i_19, i_20, i_21, i_22, i_23, i_24, i_25, i_26, i_27, i_28, i_29, i_30, i_31, i_32, i_33, i_34, i_35, i_36, i_37, i_38, i_39, i_40, i_41, i_42, i_43, i_44, i_45, i_46]))), (a_9, .inl (cy 1, 15, .inl f_1)), (a_10, .inl (cy 1, 1050, .inl g470))]) hS
                      have rg470 : mm_ar g470 0 9 := by rw [eg470]; exact mm_ar_upd (mm_ar_wk rg468 (by decide)) (mm_wk w458 (by decide)) _
                      refine lv_iload hx hb dX12_ruleLine_217 (lv_at hl 3 rfl) ?_
                      refine lv_if_eq (tgt := 233) hx hb dX12_ruleLine_219 (by decide) (fun c471 => ?_) (fun c471 => ?_)
                      · exact mm_eqN c471.symm mm_k0 mm_k1 (by decide)
                      · refine lv_aload_n hx hb dX12_ruleLine_222 rfl (lv_at hl 7 rfl) ?_
                        refine va_get (D := G) (ci := 12) (v := .ref a_10) (C := RX12) (T := TX12) (N := 38) hx hb hts (mm_i inlX12) hown hK.1 hP 0 rfl rfl 20 (by decide) (mm_h hts mm_w152) (fun _ h9 => h9) rfl dX12_ruleLine_223 ?_
                        refine lv_iload_n hx hb dX12_ruleLine_226 rfl (lv_at hl 5 rfl) ?_
                        refine lv_iload hx hb dX12_ruleLine_227 (lv_at hl 0 rfl) ?_
                        refine lv_iadd hx hb dX12_ruleLine_229 ?_
                        refine lv_topi (fun v472 ev472 => ?_)
                        have rv472 : mm_rg v472 840 1049 := mm_add ev472 rv8 w458 (by decide) (by decide)
                        have tv472 := mm_addE ev472 rv8 w458 (by decide)
                        refine lv_iload hx hb dX12_ruleLine_230 (lv_at hl 2 rfl) ?_
                        refine va_iast hx hb hK.1 hP hD hS 4 1 rfl rfl (mm_in rv472 (by decide)) dX12_ruleLine_232 ?_
                        clear hP hD hS
                        clear H locs
                        obtain ⟨g473, eg473⟩ : ∃ z : Nat → Int32, z = upd g470 v472.toNatClampNeg v406 := ⟨_, rfl⟩
                        rw [← eg473]
                        intro H locs (hP : va_P G vwCl [(a_0, .inr (12, [.int i_0, .ref a_1, .ref a_2, .ref a_3, .ref a_4, .ref a_5, .int i_1, .int n441, .int n442, .int n443, .int n444, .long n445, .int n446, .int n447, .int i_8, .int i_9, .ref a_6, .ref a_7, .ref a_8, .ref a_9, .ref a_10, .ref a_11, .ref a_12, .ref a_13, .ref a_14, .ref a_15, .ref a_16, .ref a_17, .ref a_18, .int i_10, .int i_11, .int i_12, .int i_13, .int i_14, .int i_15, .ref a_19, .int i_16, .ref a_20])), (a_5, .inl (cy 0, 600, .inl f_0)), (a_7, .inl (cy 1, 30, .inl (mm_g [i_17, i_18, i_19, i_20, i_21, i_22, i_23, i_24, i_25, i_26, i_27, i_28, i_29, i_30, i_31, i_32, i_33, i_34, i_35, i_36, i_37, i_38, i_39, i_40, i_41, i_42, i_43, i_44, i_45, i_46]))), (a_9, .inl (cy 1, 15, .inl f_1)), (a_10, .inl (cy 1, 1050, .inl g473))] H) (hD : va_D A [(a_0, .inr (12, [.int i_0, .ref a_1, .ref a_2, .ref a_3, .ref a_4, .ref a_5, .int i_1, .int n441, .int n442, .int n443, .int n444, .long n445, .int n446, .int n447, .int i_8, .int i_9, .ref a_6, .ref a_7, .ref a_8, .ref a_9, .ref a_10, .ref a_11, .ref a_12, .ref a_13, .ref a_14, .ref a_15, .ref a_16, .ref a_17, .ref a_18, .int i_10, .int i_11, .int i_12, .int i_13, .int i_14, .int i_15, .ref a_19, .int i_16, .ref a_20])), (a_5, .inl (cy 0, 600, .inl f_0)), (a_7, .inl (cy 1, 30, .inl (mm_g [i_17, i_18, i_19, i_20, i_21, i_22, i_23, i_24, i_25, i_26, i_27, i_28, i_29, i_30, i_31, i_32, i_33, i_34, i_35, i_36, i_37, i_38, i_39, i_40, i_41, i_42, i_43, i_44, i_45, i_46]))), (a_9, .inl (cy 1, 15, .inl f_1)), (a_10, .inl (cy 1, 1050, .inl g473))]) hS
                        have rg473 : mm_ar g473 0 9 := by rw [eg473]; exact mm_ar_upd (mm_ar_wk rg470 (by decide)) (mm_wk w416 (by decide)) _
                        refine lv_goto (tgt := 243) hx hb dX12_ruleLine_233 (by decide) ?_
                        refine lv_aload_n hx hb dX12_ruleLine_243 rfl (lv_at hl 7 rfl) ?_
                        refine va_get (D := G) (ci := 12) (v := .ref a_9) (C := RX12) (T := TX12) (N := 38) hx hb hts (mm_i inlX12) hown hK.1 hP 0 rfl rfl 19 (by decide) (mm_h hts mm_w151) (fun _ h9 => h9) rfl dX12_ruleLine_244 ?_
                        refine lv_iload_n hx hb dX12_ruleLine_247 rfl (lv_at hl 6 rfl) ?_
                        refine lv_dup2_11 hx hb dX12_ruleLine_248 rfl rfl ?_
                        refine va_iald hx hb hK.1 hP 3 1 rfl rfl (mm_in rv3 (by decide)) dX12_ruleLine_249 ?_
                        refine lv_topi (fun v474 ev474 => ?_)
                        have rv474 : mm_rg v474 0 7 := mm_eqv ev474 (h36 _)
                        have q475 : mm_rg v474 0 6 := mm_rq_ld h45 ev474 rv474 h33 (by have := tv3; have := tv2; omega) (by decide)
                        obtain rfl : v5 = v474 := ev5.trans ev474.symm
                        refine lv_iconst (v := 1) hx hb dX12_ruleLine_250 (by decide) ?_
                        refine lv_iadd hx hb dX12_ruleLine_251 ?_
                        refine lv_topi (fun v476 ev476 => ?_)
                        have rv476 : mm_rg v476 1 7 := mm_add ev476 q6 mm_k1 (by decide) (by decide)
                        have tv476 := mm_addEc ev476 q6 mm_k1 (by decide) (k := 1) (by decide)
                        refine va_iast hx hb hK.1 hP hD hS 3 1 rfl rfl (mm_in rv3 (by decide)) dX12_ruleLine_252 ?_
                        clear hP hD hS
                        clear H locs
                        obtain ⟨g477, eg477⟩ : ∃ z : Nat → Int32, z = upd f_1 v3.toNatClampNeg v476 := ⟨_, rfl⟩
                        rw [← eg477]
                        intro H locs (hP : va_P G vwCl [(a_0, .inr (12, [.int i_0, .ref a_1, .ref a_2, .ref a_3, .ref a_4, .ref a_5, .int i_1, .int n441, .int n442, .int n443, .int n444, .long n445, .int n446, .int n447, .int i_8, .int i_9, .ref a_6, .ref a_7, .ref a_8, .ref a_9, .ref a_10, .ref a_11, .ref a_12, .ref a_13, .ref a_14, .ref a_15, .ref a_16, .ref a_17, .ref a_18, .int i_10, .int i_11, .int i_12, .int i_13, .int i_14, .int i_15, .ref a_19, .int i_16, .ref a_20])), (a_5, .inl (cy 0, 600, .inl f_0)), (a_7, .inl (cy 1, 30, .inl (mm_g [i_17, i_18, i_19, i_20, i_21, i_22, i_23, i_24, i_25, i_26, i_27, i_28, i_29, i_30, i_31, i_32, i_33, i_34, i_35, i_36, i_37, i_38, i_39, i_40, i_41, i_42, i_43, i_44, i_45, i_46]))), (a_9, .inl (cy 1, 15, .inl g477)), (a_10, .inl (cy 1, 1050, .inl g473))] H) (hD : va_D A [(a_0, .inr (12, [.int i_0, .ref a_1, .ref a_2, .ref a_3, .ref a_4, .ref a_5, .int i_1, .int n441, .int n442, .int n443, .int n444, .long n445, .int n446, .int n447, .int i_8, .int i_9, .ref a_6, .ref a_7, .ref a_8, .ref a_9, .ref a_10, .ref a_11, .ref a_12, .ref a_13, .ref a_14, .ref a_15, .ref a_16, .ref a_17, .ref a_18, .int i_10, .int i_11, .int i_12, .int i_13, .int i_14, .int i_15, .ref a_19, .int i_16, .ref a_20])), (a_5, .inl (cy 0, 600, .inl f_0)), (a_7, .inl (cy 1, 30, .inl (mm_g [i_17, i_18, i_19, i_20, i_21, i_22, i_23, i_24, i_25, i_26, i_27, i_28, i_29, i_30, i_31, i_32, i_33, i_34, i_35, i_36, i_37, i_38, i_39, i_40, i_41, i_42, i_43, i_44, i_45, i_46]))), (a_9, .inl (cy 1, 15, .inl g477)), (a_10, .inl (cy 1, 1050, .inl g473))]) hS
                        have rg477 : mm_ar g477 0 7 := by rw [eg477]; exact mm_ar_upd (mm_ar_wk h36 (by decide)) (mm_wk rv476 (by decide)) _
                        have w478 : mm_rls g477 g473 0 i_19 i_20 := (mm_rls_fr h38 (mm_fr_u (mm_fr_r _ _) eg477 rv3 (by decide)) (mm_fr_u (mm_fr_u (mm_fr_u w73 eg468 rv467 (by decide)) eg470 rv469 (by decide)) eg473 rv472 (by decide)) (by decide))
                        have w479 : mm_rls g477 g473 1 i_25 i_26 := (mm_rls_fr h39 (mm_fr_u (mm_fr_r _ _) eg477 rv3 (by decide)) (mm_fr_u (mm_fr_u (mm_fr_u w73 eg468 rv467 (by decide)) eg470 rv469 (by decide)) eg473 rv472 (by decide)) (by decide))
                        have w480 : mm_rls g477 g473 2 i_31 i_32 := (mm_rls_fr h40 (mm_fr_u (mm_fr_r _ _) eg477 rv3 (by decide)) (mm_fr_u (mm_fr_u (mm_fr_u w73 eg468 rv467 (by decide)) eg470 rv469 (by decide)) eg473 rv472 (by decide)) (by decide))
                        have w481 : mm_rls g477 g473 3 i_37 i_38 := (mm_rls_fr h41 (mm_fr_u (mm_fr_r _ _) eg477 rv3 (by decide)) (mm_fr_u (mm_fr_u (mm_fr_u w73 eg468 rv467 (by decide)) eg470 rv469 (by decide)) eg473 rv472 (by decide)) (by decide))
                        have w482 : (i_4 : Int32).toInt ≤ (n443 : Int32).toInt := (by have := h42; have := w398; have := w414; have := w434; have := w456; omega)
                        have w483 : mm_rls g477 g473 4 i_43 i_44 := (mm_rls_rule h46 eg477 (by have := tv3; have := tv2; omega) ev5 tv476 (by have := tv8; have := tv7; have := tv4; omega) (mm_ag_u (mm_ag_u (mm_ag_u w74 eg468 tv467 w416 rv8 (by decide)) eg470 tv469 w436 rv8 (by decide)) eg473 tv472 w458 rv8 (by decide)) (mm_pmr_tn (mm_idk_w w75 q78 (by decide)) eg468 tv467 eg470 tv469 eg473 tv472 w417 w437 w459 (mm_nq_ne w438 q464 (by decide)) (mm_nq_ne w460 q463 (by decide)) (mm_nq_ne w461 q463 (by decide)) h32 rv8 w416 w436 w458 (by decide)) h33 q6 (by decide))
                        have w484 : mm_fr f_1 g477 12 := (mm_fr_u (mm_fr_r _ _) eg477 rv3 (by decide))
                        have w485 : mm_fr f_2 g473 840 := (mm_fr_u (mm_fr_u (mm_fr_u w73 eg468 rv467 (by decide)) eg470 rv469 (by decide)) eg473 rv472 (by decide))
                        subst hAe
                        rw [hQ]
                        exact W.vret hx hb hr (fun t ht hW => ⟨⟨(n441, n442, n443, n444, n445, n446, n447, g477, g473), rfl, ⟨w449, w450, w451, (mm_wk q463 (by decide)), rg477, rg473, w478, w479, w480, w481, w453, w454, w455, w482, w483, w484, w485⟩, by rw [ht]; exact hP, hK.warm hW, hD⟩, hS.F ht⟩) hS.2.2 dX12_ruleLine_253
                    · have q486 := mm_neL (lo := 1) (mm_ne c462) w452 mm_k0 (by decide) (by decide)
                      have w487 : mm_rls f_1 z37_4_72 0 i_19 i_20 := (mm_rls_fr h38 (mm_fr_r _ _) w73 (by decide))
                      have w488 : mm_rls f_1 z37_4_72 1 i_25 i_26 := (mm_rls_fr h39 (mm_fr_r _ _) w73 (by decide))
                      have w489 : mm_rls f_1 z37_4_72 2 i_31 i_32 := (mm_rls_fr h40 (mm_fr_r _ _) w73 (by decide))
                      have w490 : mm_rls f_1 z37_4_72 3 i_37 i_38 := (mm_rls_fr h41 (mm_fr_r _ _) w73 (by decide))
                      have w491 : (i_4 : Int32).toInt ≤ (n443 : Int32).toInt := (by have := h42; have := w398; have := w414; have := w434; have := w456; omega)
                      have w492 : mm_rls f_1 z37_4_72 4 i_43 i_44 := (mm_rls_beg h46 (by have := tv3; have := tv2; omega) ev5 (by have := tv8; have := tv7; have := tv4; omega) w74 h33 q6 (by decide))
                      have w493 : mm_fr f_1 f_1 12 := (mm_fr_r _ _)
                      subst hAe
                      rw [hQ]
                      exact W.vret hx hb hr (fun t ht hW => ⟨⟨(n441, n442, n443, n444, n445, n446, n447, f_1, z37_4_72), rfl, ⟨w449, w450, w451, (mm_wk q486 (by decide)), h36, rz37_4_72, w487, w488, w489, w490, w453, w454, w455, w491, w492, w493, w73⟩, by rw [ht]; exact hP, hK.warm hW, hD⟩, hS.F ht⟩) hS.2.2 dX12_ruleLine_194
              · exact mm_eqN c302.symm mm_k0 mm_k1 (by decide)
          · exact absurd rfl (mm_ne c80)
        · refine lv_if_eq (tgt := 118) hx hb dX12_ruleLine_68 (by decide) (fun c494 => ?_) (fun c494 => ?_)
          · exact mm_eqN c494.symm mm_k0 mm_k1 (by decide)
          · refine lv_aload_n hx hb dX12_ruleLine_71 rfl (lv_at hl 4 rfl) ?_
            refine mm_finv (va_runV (As := []) (rest := []) ⟨hx, hb, hml, hown, hts⟩ (M22_X12_next l G cy H.size a_0 i_0 a_1 a_2 a_3 a_4 a_5 i_1 i_2 i_3 i_4 i_5 j_0 i_6 i_7 i_8 i_9 a_6 a_7 a_8 a_9 a_10 a_11 a_12 a_13 a_14 a_15 a_16 a_17 a_18 i_10 i_11 i_12 i_13 i_14 i_15 a_19 i_16 a_20 f_0 h0 h1 h2 h3 h5 h43) (cwV 0 hts (mm_gV mm_w451 mm_w452 mm_w453 mm_w5 mm_w454) rfl rfl rfl hd_X12_next ⟨by rw [hRf]; exact Nat.le_of_ble_eq_true rfl, by rw [hRl]; exact Nat.le_of_ble_eq_true rfl⟩) (mm_preV hK hZ hS hA hP hD [0, 1] rfl rfl 0 rfl rfl rfl) rfl rfl hl.1 rfl (lv_room (Nat.le_of_ble_eq_true rfl)) dX12_ruleLine_72 ⟨by rw [hRc]; exact Nat.le_of_ble_eq_true rfl, by rw [hRs]; exact Nat.le_of_ble_eq_true rfl⟩) hP hD hS hA (fun u : Int32 × Int32 × Int32 × Int32 × Int64 => [(a_0, .inr (12, [.int i_0, .ref a_1, .ref a_2, .ref a_3, .ref a_4, .ref a_5, .int i_1, .int u.1, .int u.2.1, .int u.2.2.1, .int u.2.2.2.1, .long u.2.2.2.2, .int i_6, .int i_7, .int i_8, .int i_9, .ref a_6, .ref a_7, .ref a_8, .ref a_9, .ref a_10, .ref a_11, .ref a_12, .ref a_13, .ref a_14, .ref a_15, .ref a_16, .ref a_17, .ref a_18, .int i_10, .int i_11, .int i_12, .int i_13, .int i_14, .int i_15, .ref a_19, .int i_16, .ref a_20])), (a_5, .inl (cy 0, 600, .inl f_0)), (a_7, .inl (cy 1, 30, .inl (mm_g [i_17, i_18, i_19, i_20, i_21, i_22, i_23, i_24, i_25, i_26, i_27, i_28, i_29, i_30, i_31, i_32, i_33, i_34, i_35, i_36, i_37, i_38, i_39, i_40, i_41, i_42, i_43, i_44, i_45, i_46]))), (a_9, .inl (cy 1, 15, .inl f_1)), (a_10, .inl (cy 1, 1050, .inl z37_4_72))]) [0, 1] [2, 3, 4] (n := 5) (fun _ => rfl) (by decide +kernel) (by decide +kernel) rfl (fun _ => rfl) (wr := [(a_7, .inl (cy 1, 30, .inl (mm_g [i_17, i_18, i_19, i_20, i_21, i_22, i_23, i_24, i_25, i_26, i_27, i_28, i_29, i_30, i_31, i_32, i_33, i_34, i_35, i_36, i_37, i_38, i_39, i_40, i_41, i_42, i_43, i_44, i_45, i_46]))), (a_9, .inl (cy 1, 15, .inl f_1)), (a_10, .inl (cy 1, 1050, .inl z37_4_72))]) rfl (fun _ => rfl) (fun _ => rfl) ?_
            clear hP hD hS
            clear H locs
            intro u
            obtain ⟨n495, n496, n497, n498, n499⟩ := u
            intro H locs hw (hP : va_P G vwCl [(a_0, .inr (12, [.int i_0, .ref a_1, .ref a_2, .ref a_3, .ref a_4, .ref a_5, .int i_1, .int n495, .int n496, .int n497, .int n498, .long n499, .int i_6, .int i_7, .int i_8, .int i_9, .ref a_6, .ref a_7, .ref a_8, .ref a_9, .ref a_10, .ref a_11, .ref a_12, .ref a_13, .ref a_14, .ref a_15, .ref a_16, .ref a_17, .ref a_18, .int i_10, .int i_11, .int i_12, .int i_13, .int i_14, .int i_15, .ref a_19, .int i_16, .ref a_20])), (a_5, .inl (cy 0, 600, .inl f_0)), (a_7, .inl (cy 1, 30, .inl (mm_g [i_17, i_18, i_19, i_20, i_21, i_22, i_23, i_24, i_25, i_26, i_27, i_28, i_29, i_30, i_31, i_32, i_33, i_34, i_35, i_36, i_37, i_38, i_39, i_40, i_41, i_42, i_43, i_44, i_45, i_46]))), (a_9, .inl (cy 1, 15, .inl f_1)), (a_10, .inl (cy 1, 1050, .inl z37_4_72))] H) (hD : va_D A [(a_0, .inr (12, [.int i_0, .ref a_1, .ref a_2, .ref a_3, .ref a_4, .ref a_5, .int i_1, .int n495, .int n496, .int n497, .int n498, .long n499, .int i_6, .int i_7, .int i_8, .int i_9, .ref a_6, .ref a_7, .ref a_8, .ref a_9, .ref a_10, .ref a_11, .ref a_12, .ref a_13, .ref a_14, .ref a_15, .ref a_16, .ref a_17, .ref a_18, .int i_10, .int i_11, .int i_12, .int i_13, .int i_14, .int i_15, .ref a_19, .int i_16, .ref a_20])), (a_5, .inl (cy 0, 600, .inl f_0)), (a_7, .inl (cy 1, 30, .inl (mm_g [i_17, i_18, i_19, i_20, i_21, i_22, i_23, i_24, i_25, i_26, i_27, i_28, i_29, i_30, i_31, i_32, i_33, i_34, i_35, i_36, i_37, i_38, i_39, i_40, i_41, i_42, i_43, i_44, i_45, i_46]))), (a_9, .inl (cy 1, 15, .inl f_1)), (a_10, .inl (cy 1, 1050, .inl z37_4_72))]) hS
            obtain ⟨w500, w501, w502, w503, w504, w505, w506⟩ := hw
            replace w503 : (n497 : Int32).toInt ≤ (n495 : Int32).toInt := w503
            replace w504 : (n495 : Int32).toInt ≤ (i_1 : Int32).toInt := w504
            replace w505 : mm_tk n496 n497 n495 := w505
            replace w506 : (i_2 : Int32).toInt ≤ (n497 : Int32).toInt := w506
            refine lv_aload_n hx hb dX12_ruleLine_75 rfl (lv_at hl 4 rfl) ?_
            refine lv_iconst (v := 1) hx hb dX12_ruleLine_76 (by decide) ?_
            refine lv_bipush (v := 9) hx hb dX12_ruleLine_77 (by decide) ?_
            refine mm_fini (va_runV (As := [.int 1, .int 9]) (rest := []) ⟨hx, hb, hml, hown, hts⟩ (M64_X12_number l G cy H.size a_0 i_0 a_1 a_2 a_3 a_4 a_5 i_1 n495 n496 n497 n498 n499 i_6 i_7 i_8 i_9 a_6 a_7 a_8 a_9 a_10 a_11 a_12 a_13 a_14 a_15 a_16 a_17 a_18 i_10 i_11 i_12 i_13 i_14 i_15 a_19 i_16 a_20 f_0 h0 w500 w501 w502 h4 h5 w503 w504 w505) (cwV 2 hts (mm_gV mm_w491 mm_w492 mm_w493 mm_w5 mm_w494) rfl rfl rfl hd_X12_number ⟨by rw [hRf]; exact Nat.le_of_ble_eq_true rfl, by rw [hRl]; exact Nat.le_of_ble_eq_true rfl⟩) (mm_preV hK hZ hS hA hP hD [0, 1] rfl rfl 0 rfl rfl rfl) rfl rfl hl.1 rfl (lv_room (Nat.le_of_ble_eq_true rfl)) dX12_ruleLine_79 ⟨by rw [hRc]; exact Nat.le_of_ble_eq_true rfl, by rw [hRs]; exact Nat.le_of_ble_eq_true rfl⟩) hP hD hS hA (fun u : Int32 × Int32 × Int32 × Int32 × Int64 × Int32 × Int32 => [(a_0, .inr (12, [.int i_0, .ref a_1, .ref a_2, .ref a_3, .ref a_4, .ref a_5, .int i_1, .int u.1, .int u.2.1, .int u.2.2.1, .int u.2.2.2.1, .long u.2.2.2.2.1, .int u.2.2.2.2.2.1, .int u.2.2.2.2.2.2, .int i_8, .int i_9, .ref a_6, .ref a_7, .ref a_8, .ref a_9, .ref a_10, .ref a_11, .ref a_12, .ref a_13, .ref a_14, .ref a_15, .ref a_16, .ref a_17, .ref a_18, .int i_10, .int i_11, .int i_12, .int i_13, .int i_14, .int i_15, .ref a_19, .int i_16, .ref a_20])), (a_5, .inl (cy 0, 600, .inl f_0)), (a_7, .inl (cy 1, 30, .inl (mm_g [i_17, i_18, i_19, i_20, i_21, i_22, i_23, i_24, i_25, i_26, i_27, i_28, i_29, i_30, i_31, i_32, i_33, i_34, i_35, i_36, i_37, i_38, i_39, i_40, i_41, i_42, i_43, i_44, i_45, i_46]))), (a_9, .inl (cy 1, 15, .inl f_1)), (a_10, .inl (cy 1, 1050, .inl z37_4_72))]) [0, 1] [2, 3, 4] (n := 5) (fun _ => rfl) (by decide +kernel) (by decide +kernel) rfl (fun _ => rfl) (wr := [(a_7, .inl (cy 1, 30, .inl (mm_g [i_17, i_18, i_19, i_20, i_21, i_22, i_23, i_24, i_25, i_26, i_27, i_28, i_29, i_30, i_31, i_32, i_33, i_34, i_35, i_36, i_37, i_38, i_39, i_40, i_41, i_42, i_43, i_44, i_45, i_46]))), (a_9, .inl (cy 1, 15, .inl f_1)), (a_10, .inl (cy 1, 1050, .inl z37_4_72))]) rfl (fun _ => rfl) (fun _ => rfl) ?_
            clear hP hD hS
            clear H locs
            intro v514 u
            obtain ⟨n507, n508, n509, n510, n511, n512, n513⟩ := u
            intro H locs hw (hP : va_P G vwCl [(a_0, .inr (12, [.int i_0, .ref a_1, .ref a_2, .ref a_3, .ref a_4, .ref a_5, .int i_1, .int n507, .int n508, .int n509, .int n510, .long n511, .int n512, .int n513, .int i_8, .int i_9, .ref a_6, .ref a_7, .ref a_8, .ref a_9, .ref a_10, .ref a_11, .ref a_12, .ref a_13, .ref a_14, .ref a_15, .ref a_16, .ref a_17, .ref a_18, .int i_10, .int i_11, .int i_12, .int i_13, .int i_14, .int i_15, .ref a_19, .int i_16, .ref a_20])), (a_5, .inl (cy 0, 600, .inl f_0)), (a_7, .inl (cy 1, 30, .inl (mm_g [i_17, i_18, i_19, i_20, i_21, i_22, i_23, i_24, i_25, i_26, i_27, i_28, i_29, i_30, i_31, i_32, i_33, i_34, i_35, i_36, i_37, i_38, i_39, i_40, i_41, i_42, i_43, i_44, i_45, i_46]))), (a_9, .inl (cy 1, 15, .inl f_1)), (a_10, .inl (cy 1, 1050, .inl z37_4_72))] H) (hD : va_D A [(a_0, .inr (12, [.int i_0, .ref a_1, .ref a_2, .ref a_3, .ref a_4, .ref a_5, .int i_1, .int n507, .int n508, .int n509, .int n510, .long n511, .int n512, .int n513, .int i_8, .int i_9, .ref a_6, .ref a_7, .ref a_8, .ref a_9, .ref a_10, .ref a_11, .ref a_12, .ref a_13, .ref a_14, .ref a_15, .ref a_16, .ref a_17, .ref a_18, .int i_10, .int i_11, .int i_12, .int i_13, .int i_14, .int i_15, .ref a_19, .int i_16, .ref a_20])), (a_5, .inl (cy 0, 600, .inl f_0)), (a_7, .inl (cy 1, 30, .inl (mm_g [i_17, i_18, i_19, i_20, i_21, i_22, i_23, i_24, i_25, i_26, i_27, i_28, i_29, i_30, i_31, i_32, i_33, i_34, i_35, i_36, i_37, i_38, i_39, i_40, i_41, i_42, i_43, i_44, i_45, i_46]))), (a_9, .inl (cy 1, 15, .inl f_1)), (a_10, .inl (cy 1, 1050, .inl z37_4_72))]) hS
            obtain ⟨w515, w516, w517, w518, w519, w520, w521, w522, w523, hw⟩ := hw
            replace w519 : (n509 : Int32).toInt ≤ (n507 : Int32).toInt := w519
            replace w520 : (n507 : Int32).toInt ≤ (i_1 : Int32).toInt := w520
            replace w521 : mm_tk n508 n509 n507 := w521
            replace w522 : (n497 : Int32).toInt ≤ (n509 : Int32).toInt := w522
            replace w523 : mm_b0 i_6 n512 := w523
            obtain ⟨w524, w525, w526⟩ := hw
            replace w525 : (v514 : Int32).toInt ≤ (9 : Int32).toInt := w525
            replace w526 : mm_nv n512 v514 n496 n498 := w526
            refine lv_istore (lv' := [(4, .int v514), (3, .int v10), (2, .int v8), (1, .int v3), (0, .ref a_0)]) hx hb dX12_ruleLine_82 hl (by decide) rfl ?_
            clear hl
            clear ls
            intro ls hl
            refine lv_iconst (v := 0) hx hb dX12_ruleLine_84 (by decide) ?_
            refine lv_istore (lv' := [(5, .int 0), (4, .int v514), (3, .int v10), (2, .int v8), (1, .int v3), (0, .ref a_0)]) hx hb dX12_ruleLine_85 hl (by decide) rfl ?_
            clear hl
            clear ls
            intro ls hl
            have L87_633 : ∀ (n : Nat) (x87_5_629 : Int32) (z87_4_630 : Nat → Int32), mm_rg x87_5_629 0 10 → mm_ar z87_4_630 0 9 → mm_fr f_2 z87_4_630 840 → mm_ag f_2 z87_4_630 v8 → mm_shk z87_4_630 v8 v514 v10 x87_5_629 → (10 - x87_5_629.toInt).toNat < n → ∀ (H : Heap) (locs : List Loc), va_P G vwCl [(a_0, .inr (12, [.int i_0, .ref a_1, .ref a_2, .ref a_3, .ref a_4, .ref a_5, .int i_1, .int n507, .int n508, .int n509, .int n510, .long n511, .int n512, .int n513, .int i_8, .int i_9, .ref a_6, .ref a_7, .ref a_8, .ref a_9, .ref a_10, .ref a_11, .ref a_12, .ref a_13, .ref a_14, .ref a_15, .ref a_16, .ref a_17, .ref a_18, .int i_10, .int i_11, .int i_12, .int i_13, .int i_14, .int i_15, .ref a_19, .int i_16, .ref a_20])), (a_5, .inl (cy 0, 600, .inl f_0)), (a_7, .inl (cy 1, 30, .inl (mm_g [i_17, i_18, i_19, i_20, i_21, i_22, i_23, i_24, i_25, i_26, i_27, i_28, i_29, i_30, i_31, i_32, i_33, i_34, i_35, i_36, i_37, i_38, i_39, i_40, i_41, i_42, i_43, i_44, i_45, i_46]))), (a_9, .inl (cy 1, 15, .inl f_1)), (a_10, .inl (cy 1, 1050, .inl z87_4_630))] H → va_D A [(a_0, .inr (12, [.int i_0, .ref a_1, .ref a_2, .ref a_3, .ref a_4, .ref a_5, .int i_1, .int n507, .int n508, .int n509, .int n510, .long n511, .int n512, .int n513, .int i_8, .int i_9, .ref a_6, .ref a_7, .ref a_8, .ref a_9, .ref a_10, .ref a_11, .ref a_12, .ref a_13, .ref a_14, .ref a_15, .ref a_16, .ref a_17, .ref a_18, .int i_10, .int i_11, .int i_12, .int i_13, .int i_14, .int i_15, .ref a_19, .int i_16, .ref a_20])), (a_5, .inl (cy 0, 600, .inl f_0)), (a_7, .inl (cy 1, 30, .inl (mm_g [i_17, i_18, i_19, i_20, i_21, i_22, i_23, i_24, i_25, i_26, i_27, i_28, i_29, i_30, i_31, i_32, i_33, i_34, i_35, i_36, i_37, i_38, i_39, i_40, i_41, i_42, i_43, i_44, i_45, i_46]))), (a_9, .inl (cy 1, 15, .inl f_1)), (a_10, .inl (cy 1, 1050, .inl z87_4_630))] → va_S A s.heap H locs → ∀ (ls : Array Slot), lv_has ls 8 [(5, .int x87_5_629), (4, .int v514), (3, .int v10), (2, .int v8), (1, .int v3), (0, .ref a_0)] → W p l e R s m args below meth c H locs 0 0 Q (F0 m 87 ls []) := by
              intro n
              induction n with
              | zero => intro x87_5_629 z87_4_630 rx87_5_629 rz87_4_630 w631 w632 w633 hm; exact absurd hm (Nat.not_lt_zero _)
              | succ n ih87 =>
                intro x87_5_629 z87_4_630 rx87_5_629 rz87_4_630 w631 w632 w633 hm87 H locs hP hD hS ls hl
                refine lv_iload hx hb dX12_ruleLine_87 (lv_at hl 0 rfl) ?_
                refine lv_iload_n hx hb dX12_ruleLine_89 rfl (lv_at hl 2 rfl) ?_
                refine lv_icmp_ge (tgt := 115) hx hb dX12_ruleLine_90 (by decide) (fun c635 => ?_) (fun c635 => ?_)
                · have q636 := mm_leR (mm_le c635) rv10 rx87_5_629
                  refine lv_goto (tgt := 243) hx hb dX12_ruleLine_115 (by decide) ?_
                  refine lv_aload_n hx hb dX12_ruleLine_243 rfl (lv_at hl 5 rfl) ?_
                  refine va_get (D := G) (ci := 12) (v := .ref a_9) (C := RX12) (T := TX12) (N := 38) hx hb hts (mm_i inlX12) hown hK.1 hP 0 rfl rfl 19 (by decide) (mm_h hts mm_w151) (fun _ h9 => h9) rfl dX12_ruleLine_244 ?_
                  refine lv_iload_n hx hb dX12_ruleLine_247 rfl (lv_at hl 4 rfl) ?_
                  refine lv_dup2_11 hx hb dX12_ruleLine_248 rfl rfl ?_
                  refine va_iald hx hb hK.1 hP 3 1 rfl rfl (mm_in rv3 (by decide)) dX12_ruleLine_249 ?_
                  refine lv_topi (fun v637 ev637 => ?_)
                  have rv637 : mm_rg v637 0 7 := mm_eqv ev637 (h36 _)
                  have q638 : mm_rg v637 0 6 := mm_rq_ld h45 ev637 rv637 h33 (by have := tv3; have := tv2; omega) (by decide)
                  obtain rfl : v5 = v637 := ev5.trans ev637.symm
                  refine lv_iconst (v := 1) hx hb dX12_ruleLine_250 (by decide) ?_
                  refine lv_iadd hx hb dX12_ruleLine_251 ?_
                  refine lv_topi (fun v639 ev639 => ?_)
                  have rv639 : mm_rg v639 1 7 := mm_add ev639 q6 mm_k1 (by decide) (by decide)
                  have tv639 := mm_addEc ev639 q6 mm_k1 (by decide) (k := 1) (by decide)
                  refine va_iast hx hb hK.1 hP hD hS 3 1 rfl rfl (mm_in rv3 (by decide)) dX12_ruleLine_252 ?_
                  clear hP hD hS
                  clear H locs
                  obtain ⟨g640, eg640⟩ : ∃ z : Nat → Int32, z = upd f_1 v3.toNatClampNeg v639 := ⟨_, rfl⟩
                  rw [← eg640]
                  intro H locs (hP : va_P G vwCl [(a_0, .inr (12, [.int i_0, .ref a_1, .ref a_2, .ref a_3, .ref a_4, .ref a_5, .int i_1, .int n507, .int n508, .int n509, .int n510, .long n511, .int n512, .int n513, .int i_8, .int i_9, .ref a_6, .ref a_7, .ref a_8, .ref a_9, .ref a_10, .ref a_11, .ref a_12, .ref a_13, .ref a_14, .ref a_15, .ref a_16, .ref a_17, .ref a_18, .int i_10, .int i_11, .int i_12, .int i_13, .int i_14, .int i_15, .ref a_19, .int i_16, .ref a_20])), (a_5, .inl (cy 0, 600, .inl f_0)), (a_7, .inl (cy 1, 30, .inl (mm_g [i_17, i_18, i_19, i_20, i_21, i_22, i_23, i_24, i_25, i_26, i_27, i_28, i_29, i_30, i_31, i_32, i_33, i_34, i_35, i_36, i_37, i_38, i_39, i_40, i_41, i_42, i_43, i_44, i_45, i_46]))), (a_9, .inl (cy 1, 15, .inl g640)), (a_10, .inl (cy 1, 1050, .inl z87_4_630))] H) (hD : va_D A [(a_0, .inr (12, [.int i_0, .ref a_1, .ref a_2, .ref a_3, .ref a_4, .ref a_5, .int i_1, .int n507, .int n508, .int n509, .int n510, .long n511, .int n512, .int n513, .int i_8, .int i_9, .ref a_6, .ref a_7, .ref a_8, .ref a_9, .ref a_10, .ref a_11, .ref a_12, .ref a_13, .ref a_14, .ref a_15, .ref a_16, .ref a_17, .ref a_18, .int i_10, .int i_11, .int i_12, .int i_13, .int i_14, .int i_15, .ref a_19, .int i_16, .ref a_20])), (a_5, .inl (cy 0, 600, .inl f_0)), (a_7, .inl (cy 1, 30, .inl (mm_g [i_17, i_18, i_19, i_20, i_21, i_22, i_23, i_24, i_25, i_26, i_27, i_28, i_29, i_30, i_31, i_32, i_33, i_34, i_35, i_36, i_37, i_38, i_39, i_40, i_41, i_42, i_43, i_44, i_45, i_46]))), (a_9, .inl (cy 1, 15, .inl g640)), (a_10, .inl (cy 1, 1050, .inl z87_4_630))]) hS
                  have rg640 : mm_ar g640 0 7 := by rw [eg640]; exact mm_ar_upd (mm_ar_wk h36 (by decide)) (mm_wk rv639 (by decide)) _
                  have w641 : mm_rls g640 z87_4_630 0 i_19 i_20 := (mm_rls_fr h38 (mm_fr_u (mm_fr_r _ _) eg640 rv3 (by decide)) w631 (by decide))
                  have w642 : mm_rls g640 z87_4_630 1 i_25 i_26 := (mm_rls_fr h39 (mm_fr_u (mm_fr_r _ _) eg640 rv3 (by decide)) w631 (by decide))
                  have w643 : mm_rls g640 z87_4_630 2 i_31 i_32 := (mm_rls_fr h40 (mm_fr_u (mm_fr_r _ _) eg640 rv3 (by decide)) w631 (by decide))
                  have w644 : mm_rls g640 z87_4_630 3 i_37 i_38 := (mm_rls_fr h41 (mm_fr_u (mm_fr_r _ _) eg640 rv3 (by decide)) w631 (by decide))
                  have w645 : (i_4 : Int32).toInt ≤ (n509 : Int32).toInt := (by have := h42; have := w506; have := w522; omega)
                  have w646 : mm_rls g640 z87_4_630 4 i_43 i_44 := (mm_rls_rule h46 eg640 (by have := tv3; have := tv2; omega) ev5 tv639 (by have := tv8; have := tv7; have := tv4; omega) w632 (mm_pmr_sh w633 tv10 (mm_le c635) h32 w524 rv8) h33 q6 (by decide))
                  have w647 : mm_fr f_1 g640 12 := (mm_fr_u (mm_fr_r _ _) eg640 rv3 (by decide))
                  subst hAe
                  rw [hQ]
                  exact W.vret hx hb hr (fun t ht hW => ⟨⟨(n507, n508, n509, n510, n511, n512, n513, g640, z87_4_630), rfl, ⟨w515, w516, w517, w518, rg640, rz87_4_630, w641, w642, w643, w644, w519, w520, w521, w645, w646, w647, w631⟩, by rw [ht]; exact hP, hK.warm hW, hD⟩, hS.F ht⟩) hS.2.2 dX12_ruleLine_253
                · have q648 := mm_ltL (h := 9) (mm_nle c635) rx87_5_629 rv10 (by decide)
                  refine lv_aload_n hx hb dX12_ruleLine_93 rfl (lv_at hl 5 rfl) ?_
                  refine va_get (D := G) (ci := 12) (v := .ref a_10) (C := RX12) (T := TX12) (N := 38) hx hb hts (mm_i inlX12) hown hK.1 hP 0 rfl rfl 20 (by decide) (mm_h hts mm_w152) (fun _ h9 => h9) rfl dX12_ruleLine_94 ?_
                  refine lv_iload_n hx hb dX12_ruleLine_97 rfl (lv_at hl 3 rfl) ?_
                  refine lv_iload hx hb dX12_ruleLine_98 (lv_at hl 0 rfl) ?_
                  refine lv_iadd hx hb dX12_ruleLine_100 ?_
                  refine lv_topi (fun v649 ev649 => ?_)
                  have rv649 : mm_rg v649 840 1049 := mm_add ev649 rv8 q648 (by decide) (by decide)
                  have tv649 := mm_addE ev649 rv8 q648 (by decide)
                  refine lv_iload hx hb dX12_ruleLine_101 (lv_at hl 0 rfl) ?_
                  refine lv_iload hx hb dX12_ruleLine_103 (lv_at hl 1 rfl) ?_
                  refine lv_iadd hx hb dX12_ruleLine_105 ?_
                  refine lv_topi (fun v650 ev650 => ?_)
                  have rv650 : mm_rg v650 1 18 := mm_add ev650 q648 w524 (by decide) (by decide)
                  have tv650 := mm_addE ev650 q648 w524 (by decide)
                  refine lv_iload_n hx hb dX12_ruleLine_106 rfl (lv_at hl 2 rfl) ?_
                  refine lv_irem hx hb dX12_ruleLine_107 (mm_nz rv10 (by decide)) ?_
                  refine lv_topi (fun v651 ev651 => ?_)
                  have rv651 : mm_rg v651 0 9 := mm_rem ev651 rv650 rv10 (by decide) (by decide)
                  refine va_iast hx hb hK.1 hP hD hS 4 1 rfl rfl (mm_in rv649 (by decide)) dX12_ruleLine_108 ?_
                  clear hP hD hS
                  clear H locs
                  obtain ⟨g652, eg652⟩ : ∃ z : Nat → Int32, z = upd z87_4_630 v649.toNatClampNeg v651 := ⟨_, rfl⟩
                  rw [← eg652]
                  intro H locs (hP : va_P G vwCl [(a_0, .inr (12, [.int i_0, .ref a_1, .ref a_2, .ref a_3, .ref a_4, .ref a_5, .int i_1, .int n507, .int n508, .int n509, .int n510, .long n511, .int n512, .int n513, .int i_8, .int i_9, .ref a_6, .ref a_7, .ref a_8, .ref a_9, .ref a_10, .ref a_11, .ref a_12, .ref a_13, .ref a_14, .ref a_15, .ref a_16, .ref a_17, .ref a_18, .int i_10, .int i_11, .int i_12, .int i_13, .int i_14, .int i_15, .ref a_19, .int i_16, .ref a_20])), (a_5, .inl (cy 0, 600, .inl f_0)), (a_7, .inl (cy 1, 30, .inl (mm_g [i_17, i_18, i_19, i_20, i_21, i_22, i_23, i_24, i_25, i_26, i_27, i_28, i_29, i_30, i_31, i_32, i_33, i_34, i_35, i_36, i_37, i_38, i_39, i_40, i_41, i_42, i_43, i_44, i_45, i_46]))), (a_9, .inl (cy 1, 15, .inl f_1)), (a_10, .inl (cy 1, 1050, .inl g652))] H) (hD : va_D A [(a_0, .inr (12, [.int i_0, .ref a_1, .ref a_2, .ref a_3, .ref a_4, .ref a_5, .int i_1, .int n507, .int n508, .int n509, .int n510, .long n511, .int n512, .int n513, .int i_8, .int i_9, .ref a_6, .ref a_7, .ref a_8, .ref a_9, .ref a_10, .ref a_11, .ref a_12, .ref a_13, .ref a_14, .ref a_15, .ref a_16, .ref a_17, .ref a_18, .int i_10, .int i_11, .int i_12, .int i_13, .int i_14, .int i_15, .ref a_19, .int i_16, .ref a_20])), (a_5, .inl (cy 0, 600, .inl f_0)), (a_7, .inl (cy 1, 30, .inl (mm_g [i_17, i_18, i_19, i_20, i_21, i_22, i_23, i_24, i_25, i_26, i_27, i_28, i_29, i_30, i_31, i_32, i_33, i_34, i_35, i_36, i_37, i_38, i_39, i_40, i_41, i_42, i_43, i_44, i_45, i_46]))), (a_9, .inl (cy 1, 15, .inl f_1)), (a_10, .inl (cy 1, 1050, .inl g652))]) hS
                  have rg652 : mm_ar g652 0 9 := by rw [eg652]; exact mm_ar_upd (mm_ar_wk rz87_4_630 (by decide)) (mm_wk rv651 (by decide)) _
                  obtain ⟨v653, ev653⟩ : ∃ y : Int32, y = x87_5_629 + 1 := ⟨_, rfl⟩
                  refine lv_iinc (v := v653) (lv' := [(5, .int v653), (4, .int v514), (3, .int v10), (2, .int v8), (1, .int v3), (0, .ref a_0)]) hx hb dX12_ruleLine_109 hl (k := 0) rfl (by rw [ev653]; rfl) (by decide) rfl ?_
                  clear hl
                  clear ls
                  intro ls hl
                  have rv653 : mm_rg v653 1 10 := mm_add ev653 q648 mm_k1 (by decide) (by decide)
                  have tv653 := mm_addEc ev653 q648 mm_k1 (by decide) (k := 1) (by decide)
                  refine lv_goto (tgt := 87) hx hb dX12_ruleLine_112 (by decide) ?_
                  exact ih87 v653 g652 (mm_wk rv653 (by decide)) rg652 (mm_fr_u w631 eg652 rv649 (by decide)) (mm_ag_u w632 eg652 tv649 q648 rv8 (by decide)) (mm_shk_s w633 tv653 eg652 tv649 q648 rv8 ev651 tv650 rv650 rv10 w524 (by decide)) (mm_mu hm87 tv653 (by decide) (rv653).2 (by decide)) H locs hP hD hS ls (lv_sub hl [0, 1, 2, 3, 4, 5] rfl)
            exact L87_633 _ 0 z37_4_72 (mm_wk mm_k0 (by decide)) rz37_4_72 w73 w74 (mm_shk_0 _ _ _ _) (Nat.lt_succ_self _) H locs hP hD hS ls (lv_sub hl [0, 1, 2, 3, 4, 5] rfl)
      · have q654 := mm_ltL (h := 9) (mm_nle c77) rx37_4_71 mm_k10 (by decide)
        refine lv_aload_n hx hb dX12_ruleLine_44 rfl (lv_at hl 4 rfl) ?_
        refine va_get (D := G) (ci := 12) (v := .ref a_10) (C := RX12) (T := TX12) (N := 38) hx hb hts (mm_i inlX12) hown hK.1 hP 0 rfl rfl 20 (by decide) (mm_h hts mm_w152) (fun _ h9 => h9) rfl dX12_ruleLine_45 ?_
        refine lv_iload_n hx hb dX12_ruleLine_48 rfl (lv_at hl 2 rfl) ?_
        refine lv_iload hx hb dX12_ruleLine_49 (lv_at hl 0 rfl) ?_
        refine lv_iadd hx hb dX12_ruleLine_51 ?_
        refine lv_topi (fun v655 ev655 => ?_)
        have rv655 : mm_rg v655 840 1049 := mm_add ev655 rv8 q654 (by decide) (by decide)
        have tv655 := mm_addE ev655 rv8 q654 (by decide)
        refine lv_iload hx hb dX12_ruleLine_52 (lv_at hl 0 rfl) ?_
        refine va_iast hx hb hK.1 hP hD hS 4 1 rfl rfl (mm_in rv655 (by decide)) dX12_ruleLine_54 ?_
        clear hP hD hS
        clear H locs
        obtain ⟨g656, eg656⟩ : ∃ z : Nat → Int32, z = upd z37_4_72 v655.toNatClampNeg x37_4_71 := ⟨_, rfl⟩
        rw [← eg656]
        intro H locs (hP : va_P G vwCl [(a_0, .inr (12, [.int i_0, .ref a_1, .ref a_2, .ref a_3, .ref a_4, .ref a_5, .int i_1, .int i_2, .int i_3, .int i_4, .int i_5, .long j_0, .int i_6, .int i_7, .int i_8, .int i_9, .ref a_6, .ref a_7, .ref a_8, .ref a_9, .ref a_10, .ref a_11, .ref a_12, .ref a_13, .ref a_14, .ref a_15, .ref a_16, .ref a_17, .ref a_18, .int i_10, .int i_11, .int i_12, .int i_13, .int i_14, .int i_15, .ref a_19, .int i_16, .ref a_20])), (a_5, .inl (cy 0, 600, .inl f_0)), (a_7, .inl (cy 1, 30, .inl (mm_g [i_17, i_18, i_19, i_20, i_21, i_22, i_23, i_24, i_25, i_26, i_27, i_28, i_29, i_30, i_31, i_32, i_33, i_34, i_35, i_36, i_37, i_38, i_39, i_40, i_41, i_42, i_43, i_44, i_45, i_46]))), (a_9, .inl (cy 1, 15, .inl f_1)), (a_10, .inl (cy 1, 1050, .inl g656))] H) (hD : va_D A [(a_0, .inr (12, [.int i_0, .ref a_1, .ref a_2, .ref a_3, .ref a_4, .ref a_5, .int i_1, .int i_2, .int i_3, .int i_4, .int i_5, .long j_0, .int i_6, .int i_7, .int i_8, .int i_9, .ref a_6, .ref a_7, .ref a_8, .ref a_9, .ref a_10, .ref a_11, .ref a_12, .ref a_13, .ref a_14, .ref a_15, .ref a_16, .ref a_17, .ref a_18, .int i_10, .int i_11, .int i_12, .int i_13, .int i_14, .int i_15, .ref a_19, .int i_16, .ref a_20])), (a_5, .inl (cy 0, 600, .inl f_0)), (a_7, .inl (cy 1, 30, .inl (mm_g [i_17, i_18, i_19, i_20, i_21, i_22, i_23, i_24, i_25, i_26, i_27, i_28, i_29, i_30, i_31, i_32, i_33, i_34, i_35, i_36, i_37, i_38, i_39, i_40, i_41, i_42, i_43, i_44, i_45, i_46]))), (a_9, .inl (cy 1, 15, .inl f_1)), (a_10, .inl (cy 1, 1050, .inl g656))]) hS
        have rg656 : mm_ar g656 0 9 := by rw [eg656]; exact mm_ar_upd (mm_ar_wk rz37_4_72 (by decide)) (mm_wk q654 (by decide)) _
        obtain ⟨v657, ev657⟩ : ∃ y : Int32, y = x37_4_71 + 1 := ⟨_, rfl⟩
        refine lv_iinc (v := v657) (lv' := [(4, .int v657), (3, .int v10), (2, .int v8), (1, .int v3), (0, .ref a_0)]) hx hb dX12_ruleLine_55 hl (k := 0) rfl (by rw [ev657]; rfl) (by decide) rfl ?_
        clear hl
        clear ls
        intro ls hl
        have rv657 : mm_rg v657 1 10 := mm_add ev657 q654 mm_k1 (by decide) (by decide)
        have tv657 := mm_addEc ev657 q654 mm_k1 (by decide) (k := 1) (by decide)
        refine lv_goto (tgt := 37) hx hb dX12_ruleLine_58 (by decide) ?_
        exact ih37 v657 g656 (mm_wk rv657 (by decide)) rg656 (mm_fr_u w73 eg656 rv655 (by decide)) (mm_ag_u w74 eg656 tv655 q654 rv8 (by decide)) (mm_idk_s w75 tv657 eg656 tv655 q654 rv8 (by decide)) (mm_mu hm37 tv657 (by decide) (rv657).2 (by decide)) H locs hP hD hS ls (lv_sub hl [0, 1, 2, 3, 4] rfl)
  exact L37_75 _ 0 f_2 (mm_wk mm_k0 (by decide)) h37 (mm_fr_r _ _) (mm_ag_r _ _) (mm_idk_0 _ _) (Nat.lt_succ_self _) H locs hP hD hS ls (lv_sub hl [0, 1, 2, 3, 4] rfl)

set_option maxHeartbeats 4000000 in
set_option maxRecDepth 100000 in
theorem M66_X12_isRoom (l : Launch) (G : va_G) (cy : Nat → ClassId) (sz : Nat) (a_0 : Nat) (i_0 : Int32) (i_1 : Int32) (a_1 : Nat) (a_2 : Nat) (a_3 : Nat) (a_4 : Nat) (a_5 : Nat) (i_2 : Int32) (i_3 : Int32) (i_4 : Int32) (i_5 : Int32) (i_6 : Int32) (j_0 : Int64) (i_7 : Int32) (i_8 : Int32) (i_9 : Int32) (i_10 : Int32) (a_6 : Nat) (a_7 : Nat) (a_8 : Nat) (a_9 : Nat) (a_10 : Nat) (a_11 : Nat) (a_12 : Nat) (a_13 : Nat) (a_14 : Nat) (a_15 : Nat) (a_16 : Nat) (a_17 : Nat) (a_18 : Nat) (i_11 : Int32) (i_12 : Int32) (i_13 : Int32) (i_14 : Int32) (i_15 : Int32) (i_16 : Int32) (a_19 : Nat) (i_17 : Int32) (a_20 : Nat) (f_0 : Nat → Int32) (h0 : mm_rg i_0 1 3) (h1 : mm_rg i_2 0 600) (h2 : mm_rg i_3 0 600) (h3 : mm_rg i_4 0 4) (h4 : mm_rg i_5 0 600) (h5 : mm_rg i_7 0 3) (h6 : mm_ar f_0 (-128) 127) (h7 : (i_5 : Int32).toInt ≤ (i_3 : Int32).toInt) (h8 : (i_3 : Int32).toInt ≤ (i_2 : Int32).toInt) (h9 : mm_tk i_4 i_5 i_3)  : mm_CI l yX12_isRoom (mm_ws yX12_isRoom cX12_isRoom 4 (some .boolean)) ({ frames := 2, cells := 0, slots := 0, locals := 44 } : Room) G cy sz [(a_0, .inr (12, [.int i_1, .ref a_1, .ref a_2, .ref a_3, .ref a_4, .ref a_5, .int i_2, .int i_3, .int i_4, .int i_5, .int i_6, .long j_0, .int i_7, .int i_8, .int i_9, .int i_10, .ref a_6, .ref a_7, .ref a_8, .ref a_9, .ref a_10, .ref a_11, .ref a_12, .ref a_13, .ref a_14, .ref a_15, .ref a_16, .ref a_17, .ref a_18, .int i_11, .int i_12, .int i_13, .int i_14, .int i_15, .int i_16, .ref a_19, .int i_17, .ref a_20])), (a_5, .inl (cy 0, 600, .inl f_0))] [.ref a_0, .int 1, .int i_0, .int 3] (fun u : Int32 × Int32 × Int32 × Int32 × Int64 × Int32 × Int32 => [(a_0, .inr (12, [.int i_1, .ref a_1, .ref a_2, .ref a_3, .ref a_4, .ref a_5, .int i_2, .int u.1, .int u.2.1, .int u.2.2.1, .int u.2.2.2.1, .long u.2.2.2.2.1, .int u.2.2.2.2.2.1, .int u.2.2.2.2.2.2, .int i_9, .int i_10, .ref a_6, .ref a_7, .ref a_8, .ref a_9, .ref a_10, .ref a_11, .ref a_12, .ref a_13, .ref a_14, .ref a_15, .ref a_16, .ref a_17, .ref a_18, .int i_11, .int i_12, .int i_13, .int i_14, .int i_15, .int i_16, .ref a_19, .int i_17, .ref a_20])), (a_5, .inl (cy 0, 600, .inl f_0))]) (fun (r : Int32) (u : Int32 × Int32 × Int32 × Int32 × Int64 × Int32 × Int32) => mm_rg u.1 0 600 ∧ mm_rg u.2.1 0 4 ∧ mm_rg u.2.2.1 0 600 ∧ mm_rg u.2.2.2.2.2.1 0 3 ∧ (u.2.2.1 : Int32).toInt ≤ (u.1 : Int32).toInt ∧ (u.1 : Int32).toInt ≤ (i_2 : Int32).toInt ∧ mm_tk u.2.1 u.2.2.1 u.1 ∧ (i_5 : Int32).toInt ≤ (u.2.2.1 : Int32).toInt ∧ ((0 = r ∧ mm_rg i_0 1 3) ∨ (1 = r ∧ mm_rg i_0 1 2))) 0 0 := by
  refine mm_begin (lv := [(0, .ref a_0), (1, .int 1), (2, .int i_0), (3, .int 3)]) (by decide) (Nat.le_of_ble_eq_true rfl) rfl ?_
  intro p e s m below meth c A ls R args Q H locs hRe hQ hAe hx hb hr hlocks hml hown hnm hts hsz hA hS hP hK hD hZ hl
  have hRf : R.frames = 2 := by rw [hRe]
  have hRl : R.locals = 44 := by rw [hRe]
  have hRc : R.cells = 0 := by rw [hRe]
  have hRs : R.slots = 0 := by rw [hRe]
  refine lv_iload_n hx hb dX12_isRoom_0 rfl (lv_at hl 1 rfl) ?_
  refine lv_if_eq (tgt := 14) hx hb dX12_isRoom_1 (by decide) (fun c1 => ?_) (fun c1 => ?_)
  · exact mm_eqN c1.symm mm_k0 mm_k1 (by decide)
  · refine lv_iload_n hx hb dX12_isRoom_4 rfl (lv_at hl 2 rfl) ?_
    refine lv_iload_n hx hb dX12_isRoom_5 rfl (lv_at hl 3 rfl) ?_
    refine lv_icmp_ne (tgt := 14) hx hb dX12_isRoom_6 (by decide) (fun c2 => ?_) (fun c2 => ?_)
    · have q3 := mm_neH (hi := 2) (mm_ne c2) h0 mm_k3 (by decide) (by decide)
      refine lv_iload_n hx hb dX12_isRoom_14 rfl (lv_at hl 1 rfl) ?_
      refine lv_if_eq (tgt := 29) hx hb dX12_isRoom_15 (by decide) (fun c4 => ?_) (fun c4 => ?_)
      · exact mm_eqN c4.symm mm_k0 mm_k1 (by decide)
      · refine lv_aload_n hx hb dX12_isRoom_18 rfl (lv_at hl 0 rfl) ?_
        refine va_get (D := G) (ci := 12) (v := .int i_7) (C := RX12) (T := TX12) (N := 38) hx hb hts (mm_i inlX12) hown hK.1 hP 0 rfl rfl 12 (by decide) (mm_h hts mm_w436) (fun _ h9 => h9) rfl dX12_isRoom_19 ?_
        refine lv_if_ne (tgt := 29) hx hb dX12_isRoom_22 (by decide) (fun c5 => ?_) (fun c5 => ?_)
        · have q6 := mm_neL (lo := 1) (mm_ne c5) h5 mm_k0 (by decide) (by decide)
          refine lv_iload_n hx hb dX12_isRoom_29 rfl (lv_at hl 1 rfl) ?_
          refine lv_if_eq (tgt := 44) hx hb dX12_isRoom_30 (by decide) (fun c7 => ?_) (fun c7 => ?_)
          · exact mm_eqN c7.symm mm_k0 mm_k1 (by decide)
          · refine lv_aload_n hx hb dX12_isRoom_33 rfl (lv_at hl 0 rfl) ?_
            refine va_get (D := G) (ci := 12) (v := .int i_7) (C := RX12) (T := TX12) (N := 38) hx hb hts (mm_i inlX12) hown hK.1 hP 0 rfl rfl 12 (by decide) (mm_h hts mm_w436) (fun _ h9 => h9) rfl dX12_isRoom_34 ?_
            refine lv_if_ne (tgt := 44) hx hb dX12_isRoom_37 (by decide) (fun c8 => ?_) (fun c8 => ?_)
            · refine lv_iconst (v := 0) hx hb dX12_isRoom_44 (by decide) ?_
              have w9 : (i_5 : Int32).toInt ≤ (i_5 : Int32).toInt := (Int.le_refl _)
              subst hAe
              rw [hQ]
              exact W.zret (v := 0) hx hb hr rfl (fun t ht hW => ⟨⟨0, (i_3, i_4, i_5, i_6, j_0, i_7, i_8), rfl, ⟨h2, h3, h4, (mm_wk q6 (by decide)), h7, h8, h9, w9, (Or.inl ⟨rfl, (mm_wk q3 (by decide))⟩)⟩, by rw [ht]; exact hP, hK.warm hW, hD⟩, hS.F ht⟩) hS.2.2 dX12_isRoom_45
            · exact mm_eqN c8.symm mm_k0 q6 (by decide)
        · have q10 := mm_eqI (lo := 0) (hi := 0) c5 h5 mm_k0 (by decide)
          refine lv_aload_n hx hb dX12_isRoom_25 rfl (lv_at hl 0 rfl) ?_
          refine mm_finv (va_runV (As := []) (rest := []) ⟨hx, hb, hml, hown, hts⟩ (M22_X12_next l G cy H.size a_0 i_1 a_1 a_2 a_3 a_4 a_5 i_2 i_3 i_4 i_5 i_6 j_0 i_7 i_8 i_9 i_10 a_6 a_7 a_8 a_9 a_10 a_11 a_12 a_13 a_14 a_15 a_16 a_17 a_18 i_11 i_12 i_13 i_14 i_15 i_16 a_19 i_17 a_20 f_0 h1 h2 h3 h4 h6 h8) (cwV 0 hts (mm_gV mm_w451 mm_w452 mm_w453 mm_w5 mm_w454) rfl rfl rfl hd_X12_next ⟨by rw [hRf]; exact Nat.le_of_ble_eq_true rfl, by rw [hRl]; exact Nat.le_of_ble_eq_true rfl⟩) (mm_preV hK hZ hS hA hP hD [0, 1] rfl rfl 0 rfl rfl rfl) rfl rfl hl.1 rfl (lv_room (Nat.le_of_ble_eq_true rfl)) dX12_isRoom_26 ⟨by rw [hRc]; exact Nat.le_of_ble_eq_true rfl, by rw [hRs]; exact Nat.le_of_ble_eq_true rfl⟩) hP hD hS hA (fun u : Int32 × Int32 × Int32 × Int32 × Int64 => [(a_0, .inr (12, [.int i_1, .ref a_1, .ref a_2, .ref a_3, .ref a_4, .ref a_5, .int i_2, .int u.1, .int u.2.1, .int u.2.2.1, .int u.2.2.2.1, .long u.2.2.2.2, .int i_7, .int i_8, .int i_9, .int i_10, .ref a_6, .ref a_7, .ref a_8, .ref a_9, .ref a_10, .ref a_11, .ref a_12, .ref a_13, .ref a_14, .ref a_15, .ref a_16, .ref a_17, .ref a_18, .int i_11, .int i_12, .int i_13, .int i_14, .int i_15, .int i_16, .ref a_19, .int i_17, .ref a_20])), (a_5, .inl (cy 0, 600, .inl f_0))]) [0, 1] [] (n := 2) (fun _ => rfl) (by decide +kernel) (by decide +kernel) rfl (fun _ => rfl) (wr := []) rfl (fun _ => rfl) (fun _ => rfl) ?_
          clear hP hD hS
          clear H locs
          intro u
          obtain ⟨n11, n12, n13, n14, n15⟩ := u
          intro H locs hw (hP : va_P G vwCl [(a_0, .inr (12, [.int i_1, .ref a_1, .ref a_2, .ref a_3, .ref a_4, .ref a_5, .int i_2, .int n11, .int n12, .int n13, .int n14, .long n15, .int i_7, .int i_8, .int i_9, .int i_10, .ref a_6, .ref a_7, .ref a_8, .ref a_9, .ref a_10, .ref a_11, .ref a_12, .ref a_13, .ref a_14, .ref a_15, .ref a_16, .ref a_17, .ref a_18, .int i_11, .int i_12, .int i_13, .int i_14, .int i_15, .int i_16, .ref a_19, .int i_17, .ref a_20])), (a_5, .inl (cy 0, 600, .inl f_0))] H) (hD : va_D A [(a_0, .inr (12, [.int i_1, .ref a_1, .ref a_2, .ref a_3, .ref a_4, .ref a_5, .int i_2, .int n11, .int n12, .int n13, .int n14, .long n15, .int i_7, .int i_8, .int i_9, .int i_10, .ref a_6, .ref a_7, .ref a_8, .ref a_9, .ref a_10, .ref a_11, .ref a_12, .ref a_13, .ref a_14, .ref a_15, .ref a_16, .ref a_17, .ref a_18, .int i_11, .int i_12, .int i_13, .int i_14, .int i_15, .int i_16, .ref a_19, .int i_17, .ref a_20])), (a_5, .inl (cy 0, 600, .inl f_0))]) hS
          obtain ⟨w16, w17, w18, w19, w20, w21, w22⟩ := hw
          replace w19 : (n13 : Int32).toInt ≤ (n11 : Int32).toInt := w19
          replace w20 : (n11 : Int32).toInt ≤ (i_2 : Int32).toInt := w20
          replace w21 : mm_tk n12 n13 n11 := w21
          replace w22 : (i_3 : Int32).toInt ≤ (n13 : Int32).toInt := w22
          refine lv_iload_n hx hb dX12_isRoom_29 rfl (lv_at hl 1 rfl) ?_
          refine lv_if_eq (tgt := 44) hx hb dX12_isRoom_30 (by decide) (fun c23 => ?_) (fun c23 => ?_)
          · exact mm_eqN c23.symm mm_k0 mm_k1 (by decide)
          · refine lv_aload_n hx hb dX12_isRoom_33 rfl (lv_at hl 0 rfl) ?_
            refine va_get (D := G) (ci := 12) (v := .int i_7) (C := RX12) (T := TX12) (N := 38) hx hb hts (mm_i inlX12) hown hK.1 hP 0 rfl rfl 12 (by decide) (mm_h hts mm_w436) (fun _ h9 => h9) rfl dX12_isRoom_34 ?_
            refine lv_if_ne (tgt := 44) hx hb dX12_isRoom_37 (by decide) (fun c24 => ?_) (fun c24 => ?_)
            · have q25 := mm_neL (lo := 1) (mm_ne c24) q10 mm_k0 (by decide) (by decide)
              exact mm_no q25 (by decide)
            · refine lv_iconst (v := 1) hx hb dX12_isRoom_40 (by decide) ?_
              refine lv_goto (tgt := 45) hx hb dX12_isRoom_41 (by decide) ?_
              have w26 : (i_5 : Int32).toInt ≤ (n13 : Int32).toInt := (by have := h7; have := w22; omega)
              subst hAe
              rw [hQ]
              exact W.zret (v := 1) hx hb hr rfl (fun t ht hW => ⟨⟨1, (n11, n12, n13, n14, n15, i_7, i_8), rfl, ⟨w16, w17, w18, (mm_wk q10 (by decide)), w19, w20, w21, w26, (Or.inr ⟨rfl, q3⟩)⟩, by rw [ht]; exact hP, hK.warm hW, hD⟩, hS.F ht⟩) hS.2.2 dX12_isRoom_45
    · have q27 := mm_eqI (lo := 3) (hi := 3) c2 h0 mm_k3 (by decide)
      refine lv_aload_n hx hb dX12_isRoom_9 rfl (lv_at hl 0 rfl) ?_
      refine lv_iconst (v := 3) hx hb dX12_isRoom_10 (by decide) ?_
      refine mm_finv (va_runV (As := [.int 3]) (rest := []) ⟨hx, hb, hml, hown, hts⟩ (M45_X12_fails l G cy H.size a_0 i_1 a_1 a_2 a_3 a_4 a_5 i_2 i_3 i_4 i_5 i_6 j_0 i_7 i_8 i_9 i_10 a_6 a_7 a_8 a_9 a_10 a_11 a_12 a_13 a_14 a_15 a_16 a_17 a_18 i_11 i_12 i_13 i_14 i_15 i_16 a_19 i_17 a_20 h4 h5) (cwV 1 hts (mm_gV mm_w483 mm_w484 mm_w485 mm_w5 mm_w486) rfl rfl rfl hd_X12_fails ⟨by rw [hRf]; exact Nat.le_of_ble_eq_true rfl, by rw [hRl]; exact Nat.le_of_ble_eq_true rfl⟩) (mm_preV hK hZ hS hA hP hD [0] rfl rfl 0 rfl rfl rfl) rfl rfl hl.1 rfl (lv_room (Nat.le_of_ble_eq_true rfl)) dX12_isRoom_11 ⟨by rw [hRc]; exact Nat.le_of_ble_eq_true rfl, by rw [hRs]; exact Nat.le_of_ble_eq_true rfl⟩) hP hD hS hA (fun u : Int32 × Int32 => [(a_0, .inr (12, [.int i_1, .ref a_1, .ref a_2, .ref a_3, .ref a_4, .ref a_5, .int i_2, .int i_3, .int i_4, .int i_5, .int i_6, .long j_0, .int u.1, .int u.2, .int i_9, .int i_10, .ref a_6, .ref a_7, .ref a_8, .ref a_9, .ref a_10, .ref a_11, .ref a_12, .ref a_13, .ref a_14, .ref a_15, .ref a_16, .ref a_17, .ref a_18, .int i_11, .int i_12, .int i_13, .int i_14, .int i_15, .int i_16, .ref a_19, .int i_17, .ref a_20])), (a_5, .inl (cy 0, 600, .inl f_0))]) [0] [1] (n := 2) (fun _ => rfl) (by decide +kernel) (by decide +kernel) rfl (fun _ => rfl) (wr := [(a_5, .inl (cy 0, 600, .inl f_0))]) rfl (fun _ => rfl) (fun _ => rfl) ?_
      clear hP hD hS
      clear H locs
      intro u
      obtain ⟨n28, n29⟩ := u
      intro H locs hw (hP : va_P G vwCl [(a_0, .inr (12, [.int i_1, .ref a_1, .ref a_2, .ref a_3, .ref a_4, .ref a_5, .int i_2, .int i_3, .int i_4, .int i_5, .int i_6, .long j_0, .int n28, .int n29, .int i_9, .int i_10, .ref a_6, .ref a_7, .ref a_8, .ref a_9, .ref a_10, .ref a_11, .ref a_12, .ref a_13, .ref a_14, .ref a_15, .ref a_16, .ref a_17, .ref a_18, .int i_11, .int i_12, .int i_13, .int i_14, .int i_15, .int i_16, .ref a_19, .int i_17, .ref a_20])), (a_5, .inl (cy 0, 600, .inl f_0))] H) (hD : va_D A [(a_0, .inr (12, [.int i_1, .ref a_1, .ref a_2, .ref a_3, .ref a_4, .ref a_5, .int i_2, .int i_3, .int i_4, .int i_5, .int i_6, .long j_0, .int n28, .int n29, .int i_9, .int i_10, .ref a_6, .ref a_7, .ref a_8, .ref a_9, .ref a_10, .ref a_11, .ref a_12, .ref a_13, .ref a_14, .ref a_15, .ref a_16, .ref a_17, .ref a_18, .int i_11, .int i_12, .int i_13, .int i_14, .int i_15, .int i_16, .ref a_19, .int i_17, .ref a_20])), (a_5, .inl (cy 0, 600, .inl f_0))]) hS
      have w30 := hw
      refine lv_iload_n hx hb dX12_isRoom_14 rfl (lv_at hl 1 rfl) ?_
      refine lv_if_eq (tgt := 29) hx hb dX12_isRoom_15 (by decide) (fun c31 => ?_) (fun c31 => ?_)
      · exact mm_eqN c31.symm mm_k0 mm_k1 (by decide)
      · refine lv_aload_n hx hb dX12_isRoom_18 rfl (lv_at hl 0 rfl) ?_
        refine va_get (D := G) (ci := 12) (v := .int n28) (C := RX12) (T := TX12) (N := 38) hx hb hts (mm_i inlX12) hown hK.1 hP 0 rfl rfl 12 (by decide) (mm_h hts mm_w436) (fun _ h9 => h9) rfl dX12_isRoom_19 ?_
        refine lv_if_ne (tgt := 29) hx hb dX12_isRoom_22 (by decide) (fun c32 => ?_) (fun c32 => ?_)
        · refine lv_iload_n hx hb dX12_isRoom_29 rfl (lv_at hl 1 rfl) ?_
          refine lv_if_eq (tgt := 44) hx hb dX12_isRoom_30 (by decide) (fun c33 => ?_) (fun c33 => ?_)
          · exact mm_eqN c33.symm mm_k0 mm_k1 (by decide)
          · refine lv_aload_n hx hb dX12_isRoom_33 rfl (lv_at hl 0 rfl) ?_
            refine va_get (D := G) (ci := 12) (v := .int n28) (C := RX12) (T := TX12) (N := 38) hx hb hts (mm_i inlX12) hown hK.1 hP 0 rfl rfl 12 (by decide) (mm_h hts mm_w436) (fun _ h9 => h9) rfl dX12_isRoom_34 ?_
            refine lv_if_ne (tgt := 44) hx hb dX12_isRoom_37 (by decide) (fun c34 => ?_) (fun c34 => ?_)
            · refine lv_iconst (v := 0) hx hb dX12_isRoom_44 (by decide) ?_
              have w35 : (i_5 : Int32).toInt ≤ (i_5 : Int32).toInt := (Int.le_refl _)
              subst hAe
              rw [hQ]
              exact W.zret (v := 0) hx hb hr rfl (fun t ht hW => ⟨⟨0, (i_3, i_4, i_5, i_6, j_0, n28, n29), rfl, ⟨h2, h3, h4, (mm_wk w30 (by decide)), h7, h8, h9, w35, (Or.inl ⟨rfl, (mm_wk q27 (by decide))⟩)⟩, by rw [ht]; exact hP, hK.warm hW, hD⟩, hS.F ht⟩) hS.2.2 dX12_isRoom_45
            · exact mm_eqN c34.symm mm_k0 w30 (by decide)
        · exact mm_eqN c32.symm mm_k0 w30 (by decide)

set_option maxHeartbeats 4000000 in
set_option maxRecDepth 100000 in
theorem M67_X12_tells (l : Launch) (G : va_G) (cy : Nat → ClassId) (sz : Nat) (a_0 : Nat) (i_0 : Int32) (i_1 : Int32) (a_1 : Nat) (a_2 : Nat) (a_3 : Nat) (a_4 : Nat) (a_5 : Nat) (i_2 : Int32) (i_3 : Int32) (i_4 : Int32) (i_5 : Int32) (i_6 : Int32) (j_0 : Int64) (i_7 : Int32) (i_8 : Int32) (i_9 : Int32) (i_10 : Int32) (a_6 : Nat) (a_7 : Nat) (a_8 : Nat) (a_9 : Nat) (a_10 : Nat) (a_11 : Nat) (a_12 : Nat) (a_13 : Nat) (a_14 : Nat) (a_15 : Nat) (a_16 : Nat) (a_17 : Nat) (a_18 : Nat) (i_11 : Int32) (i_12 : Int32) (i_13 : Int32) (i_14 : Int32) (i_15 : Int32) (i_16 : Int32) (a_19 : Nat) (i_17 : Int32) (a_20 : Nat) (i_18 : Int32) (i_19 : Int32) (i_20 : Int32) (i_21 : Int32) (i_22 : Int32) (i_23 : Int32) (i_24 : Int32) (i_25 : Int32) (i_26 : Int32) (i_27 : Int32) (i_28 : Int32) (i_29 : Int32) (i_30 : Int32) (i_31 : Int32) (i_32 : Int32) (i_33 : Int32) (i_34 : Int32) (i_35 : Int32) (i_36 : Int32) (i_37 : Int32) (i_38 : Int32) (i_39 : Int32) (i_40 : Int32) (i_41 : Int32) (i_42 : Int32) (i_43 : Int32) (i_44 : Int32) (i_45 : Int32) (i_46 : Int32) (i_47 : Int32) (h0 : mm_rg i_0 2 3) (h1 : mm_rg i_18 0 10) (h2 : mm_rg i_19 0 99) (h3 : mm_rg i_20 0 9) (h4 : mm_rg i_21 0 3) (h5 : mm_rg i_22 0 6) (h6 : mm_rg i_23 0 30) (h7 : mm_rg i_24 0 10) (h8 : mm_rg i_25 0 99) (h9 : mm_rg i_26 0 9) (h10 : mm_rg i_27 0 3) (h11 : mm_rg i_28 0 6) (h12 : mm_rg i_29 0 30) (h13 : mm_rg i_30 0 10) (h14 : mm_rg i_31 0 99) (h15 : mm_rg i_32 0 9) (h16 : mm_rg i_33 0 3) (h17 : mm_rg i_34 0 6) (h18 : mm_rg i_35 0 30) (h19 : mm_rg i_36 0 10) (h20 : mm_rg i_37 0 99) (h21 : mm_rg i_38 0 9) (h22 : mm_rg i_39 0 3) (h23 : mm_rg i_40 0 6) (h24 : mm_rg i_41 0 30) (h25 : mm_rg i_42 0 10) (h26 : mm_rg i_43 0 99) (h27 : mm_rg i_44 0 9) (h28 : mm_rg i_45 0 3) (h29 : mm_rg i_46 0 6) (h30 : mm_rg i_47 0 30)  : mm_CV l yX12_tells (mm_ws yX12_tells cX12_tells 3 (none)) ({ frames := 0, cells := 0, slots := 0, locals := 0 } : Room) G cy sz [(a_0, .inr (12, [.int i_1, .ref a_1, .ref a_2, .ref a_3, .ref a_4, .ref a_5, .int i_2, .int i_3, .int i_4, .int i_5, .int i_6, .long j_0, .int i_7, .int i_8, .int i_9, .int i_10, .ref a_6, .ref a_7, .ref a_8, .ref a_9, .ref a_10, .ref a_11, .ref a_12, .ref a_13, .ref a_14, .ref a_15, .ref a_16, .ref a_17, .ref a_18, .int i_11, .int i_12, .int i_13, .int i_14, .int i_15, .int i_16, .ref a_19, .int i_17, .ref a_20])), (a_7, .inl (cy 1, 30, .inl (mm_g [i_18, i_19, i_20, i_21, i_22, i_23, i_24, i_25, i_26, i_27, i_28, i_29, i_30, i_31, i_32, i_33, i_34, i_35, i_36, i_37, i_38, i_39, i_40, i_41, i_42, i_43, i_44, i_45, i_46, i_47])))] [.ref a_0, .int 3, .int i_0] (fun u : Unit => [(a_0, .inr (12, [.int i_1, .ref a_1, .ref a_2, .ref a_3, .ref a_4, .ref a_5, .int i_2, .int i_3, .int i_4, .int i_5, .int i_6, .long j_0, .int i_7, .int i_8, .int i_9, .int i_10, .ref a_6, .ref a_7, .ref a_8, .ref a_9, .ref a_10, .ref a_11, .ref a_12, .ref a_13, .ref a_14, .ref a_15, .ref a_16, .ref a_17, .ref a_18, .int i_11, .int i_12, .int i_13, .int i_14, .int i_15, .int i_16, .ref a_19, .int i_17, .ref a_20])), (a_7, .inl (cy 1, 30, .inl (mm_g [i_18, i_19, i_20, i_21, i_22, i_23, i_24, i_25, i_26, i_27, i_28, i_29, i_30, i_31, i_32, i_33, i_34, i_35, i_36, i_37, i_38, i_39, i_40, i_41, i_42, i_43, i_44, i_0, i_46, i_47])))]) (fun u : Unit => True) 0 0 := by
  refine mm_begin (lv := [(0, .ref a_0), (1, .int 3), (2, .int i_0)]) (by decide) (Nat.le_of_ble_eq_true rfl) rfl ?_
  intro p e s m below meth c A ls R args Q H locs hRe hQ hAe hx hb hr hlocks hml hown hnm hts hsz hA hS hP hK hD hZ hl
  have hRf : R.frames = 0 := by rw [hRe]
  have hRl : R.locals = 0 := by rw [hRe]
  have hRc : R.cells = 0 := by rw [hRe]
  have hRs : R.slots = 0 := by rw [hRe]
  refine lv_aload_n hx hb dX12_tells_0 rfl (lv_at hl 0 rfl) ?_
  refine va_get (D := G) (ci := 12) (v := .ref a_7) (C := RX12) (T := TX12) (N := 38) hx hb hts (mm_i inlX12) hown hK.1 hP 0 rfl rfl 17 (by decide) (mm_h hts mm_w149) (fun _ h9 => h9) rfl dX12_tells_1 ?_
  refine lv_bipush (v := 24) hx hb dX12_tells_4 (by decide) ?_
  refine lv_iload_n hx hb dX12_tells_6 rfl (lv_at hl 1 rfl) ?_
  refine lv_iadd hx hb dX12_tells_7 ?_
  refine lv_topi (fun v1 ev1 => ?_)
  obtain rfl : v1 = 27 := ev1.trans (by decide)
  refine lv_iload_n hx hb dX12_tells_8 rfl (lv_at hl 2 rfl) ?_
  refine va_iast hx hb hK.1 hP hD hS 1 1 rfl rfl (mm_in mm_k27 (by decide)) dX12_tells_9 ?_
  clear hP hD hS
  clear H locs
  rw [show upd (mm_g [i_18, i_19, i_20, i_21, i_22, i_23, i_24, i_25, i_26, i_27, i_28, i_29, i_30, i_31, i_32, i_33, i_34, i_35, i_36, i_37, i_38, i_39, i_40, i_41, i_42, i_43, i_44, i_45, i_46, i_47]) (27 : Int32).toNatClampNeg i_0 = (mm_g [i_18, i_19, i_20, i_21, i_22, i_23, i_24, i_25, i_26, i_27, i_28, i_29, i_30, i_31, i_32, i_33, i_34, i_35, i_36, i_37, i_38, i_39, i_40, i_41, i_42, i_43, i_44, i_0, i_46, i_47]) from mm_gs2 27 30 (by decide) rfl rfl rfl]
  intro H locs (hP : va_P G vwCl [(a_0, .inr (12, [.int i_1, .ref a_1, .ref a_2, .ref a_3, .ref a_4, .ref a_5, .int i_2, .int i_3, .int i_4, .int i_5, .int i_6, .long j_0, .int i_7, .int i_8, .int i_9, .int i_10, .ref a_6, .ref a_7, .ref a_8, .ref a_9, .ref a_10, .ref a_11, .ref a_12, .ref a_13, .ref a_14, .ref a_15, .ref a_16, .ref a_17, .ref a_18, .int i_11, .int i_12, .int i_13, .int i_14, .int i_15, .int i_16, .ref a_19, .int i_17, .ref a_20])), (a_7, .inl (cy 1, 30, .inl (mm_g [i_18, i_19, i_20, i_21, i_22, i_23, i_24, i_25, i_26, i_27, i_28, i_29, i_30, i_31, i_32, i_33, i_34, i_35, i_36, i_37, i_38, i_39, i_40, i_41, i_42, i_43, i_44, i_0, i_46, i_47])))] H) (hD : va_D A [(a_0, .inr (12, [.int i_1, .ref a_1, .ref a_2, .ref a_3, .ref a_4, .ref a_5, .int i_2, .int i_3, .int i_4, .int i_5, .int i_6, .long j_0, .int i_7, .int i_8, .int i_9, .int i_10, .ref a_6, .ref a_7, .ref a_8, .ref a_9, .ref a_10, .ref a_11, .ref a_12, .ref a_13, .ref a_14, .ref a_15, .ref a_16, .ref a_17, .ref a_18, .int i_11, .int i_12, .int i_13, .int i_14, .int i_15, .int i_16, .ref a_19, .int i_17, .ref a_20])), (a_7, .inl (cy 1, 30, .inl (mm_g [i_18, i_19, i_20, i_21, i_22, i_23, i_24, i_25, i_26, i_27, i_28, i_29, i_30, i_31, i_32, i_33, i_34, i_35, i_36, i_37, i_38, i_39, i_40, i_41, i_42, i_43, i_44, i_0, i_46, i_47])))]) hS
  subst hAe
  rw [hQ]
  exact W.vret hx hb hr (fun t ht hW => ⟨⟨(), rfl, trivial, by rw [ht]; exact hP, hK.warm hW, hD⟩, hS.F ht⟩) hS.2.2 dX12_tells_10

set_option maxHeartbeats 4000000 in
set_option maxRecDepth 100000 in
theorem M68_X12_isRoom (l : Launch) (G : va_G) (cy : Nat → ClassId) (sz : Nat) (a_0 : Nat) (i_0 : Int32) (h0 : mm_rg i_0 1 6)  : mm_CI l yX12_isRoom (mm_ws yX12_isRoom cX12_isRoom 4 (some .boolean)) ({ frames := 0, cells := 0, slots := 0, locals := 0 } : Room) G cy sz [] [.ref a_0, .int 0, .int i_0, .int 6] (fun u : Unit => []) (fun (r : Int32) (u : Unit) => 0 = r) 0 0 := by
  refine mm_begin (lv := [(0, .ref a_0), (1, .int 0), (2, .int i_0), (3, .int 6)]) (by decide) (Nat.le_of_ble_eq_true rfl) rfl ?_
  intro p e s m below meth c A ls R args Q H locs hRe hQ hAe hx hb hr hlocks hml hown hnm hts hsz hA hS hP hK hD hZ hl
  have hRf : R.frames = 0 := by rw [hRe]
  have hRl : R.locals = 0 := by rw [hRe]
  have hRc : R.cells = 0 := by rw [hRe]
  have hRs : R.slots = 0 := by rw [hRe]
  refine lv_iload_n hx hb dX12_isRoom_0 rfl (lv_at hl 1 rfl) ?_
  refine lv_if_eq (tgt := 14) hx hb dX12_isRoom_1 (by decide) (fun c1 => ?_) (fun c1 => ?_)
  · refine lv_iload_n hx hb dX12_isRoom_14 rfl (lv_at hl 1 rfl) ?_
    refine lv_if_eq (tgt := 29) hx hb dX12_isRoom_15 (by decide) (fun c2 => ?_) (fun c2 => ?_)
    · refine lv_iload_n hx hb dX12_isRoom_29 rfl (lv_at hl 1 rfl) ?_
      refine lv_if_eq (tgt := 44) hx hb dX12_isRoom_30 (by decide) (fun c3 => ?_) (fun c3 => ?_)
      · refine lv_iconst (v := 0) hx hb dX12_isRoom_44 (by decide) ?_
        subst hAe
        rw [hQ]
        exact W.zret (v := 0) hx hb hr rfl (fun t ht hW => ⟨⟨0, (), rfl, rfl, by rw [ht]; exact hP, hK.warm hW, hD⟩, hS.F ht⟩) hS.2.2 dX12_isRoom_45
      · exact absurd rfl (mm_ne c3)
    · exact absurd rfl (mm_ne c2)
  · exact absurd rfl (mm_ne c1)

set_option maxHeartbeats 4000000 in
set_option maxRecDepth 100000 in
theorem M69_X12_isRoom (l : Launch) (G : va_G) (cy : Nat → ClassId) (sz : Nat) (a_0 : Nat) (i_0 : Int32) (i_1 : Int32) (a_1 : Nat) (a_2 : Nat) (a_3 : Nat) (a_4 : Nat) (a_5 : Nat) (i_2 : Int32) (i_3 : Int32) (i_4 : Int32) (i_5 : Int32) (i_6 : Int32) (j_0 : Int64) (i_7 : Int32) (i_8 : Int32) (i_9 : Int32) (i_10 : Int32) (a_6 : Nat) (a_7 : Nat) (a_8 : Nat) (a_9 : Nat) (a_10 : Nat) (a_11 : Nat) (a_12 : Nat) (a_13 : Nat) (a_14 : Nat) (a_15 : Nat) (a_16 : Nat) (a_17 : Nat) (a_18 : Nat) (i_11 : Int32) (i_12 : Int32) (i_13 : Int32) (i_14 : Int32) (i_15 : Int32) (i_16 : Int32) (a_19 : Nat) (i_17 : Int32) (a_20 : Nat) (f_0 : Nat → Int32) (h0 : mm_rg i_0 1 6) (h1 : mm_rg i_2 0 600) (h2 : mm_rg i_3 0 600) (h3 : mm_rg i_4 0 4) (h4 : mm_rg i_5 0 600) (h5 : mm_rg i_7 0 3) (h6 : mm_ar f_0 (-128) 127) (h7 : (i_5 : Int32).toInt ≤ (i_3 : Int32).toInt) (h8 : (i_3 : Int32).toInt ≤ (i_2 : Int32).toInt) (h9 : mm_tk i_4 i_5 i_3)  : mm_CI l yX12_isRoom (mm_ws yX12_isRoom cX12_isRoom 4 (some .boolean)) ({ frames := 2, cells := 0, slots := 0, locals := 44 } : Room) G cy sz [(a_0, .inr (12, [.int i_1, .ref a_1, .ref a_2, .ref a_3, .ref a_4, .ref a_5, .int i_2, .int i_3, .int i_4, .int i_5, .int i_6, .long j_0, .int i_7, .int i_8, .int i_9, .int i_10, .ref a_6, .ref a_7, .ref a_8, .ref a_9, .ref a_10, .ref a_11, .ref a_12, .ref a_13, .ref a_14, .ref a_15, .ref a_16, .ref a_17, .ref a_18, .int i_11, .int i_12, .int i_13, .int i_14, .int i_15, .int i_16, .ref a_19, .int i_17, .ref a_20])), (a_5, .inl (cy 0, 600, .inl f_0))] [.ref a_0, .int 1, .int i_0, .int 6] (fun u : Int32 × Int32 × Int32 × Int32 × Int64 × Int32 × Int32 => [(a_0, .inr (12, [.int i_1, .ref a_1, .ref a_2, .ref a_3, .ref a_4, .ref a_5, .int i_2, .int u.1, .int u.2.1, .int u.2.2.1, .int u.2.2.2.1, .long u.2.2.2.2.1, .int u.2.2.2.2.2.1, .int u.2.2.2.2.2.2, .int i_9, .int i_10, .ref a_6, .ref a_7, .ref a_8, .ref a_9, .ref a_10, .ref a_11, .ref a_12, .ref a_13, .ref a_14, .ref a_15, .ref a_16, .ref a_17, .ref a_18, .int i_11, .int i_12, .int i_13, .int i_14, .int i_15, .int i_16, .ref a_19, .int i_17, .ref a_20])), (a_5, .inl (cy 0, 600, .inl f_0))]) (fun (r : Int32) (u : Int32 × Int32 × Int32 × Int32 × Int64 × Int32 × Int32) => mm_rg u.1 0 600 ∧ mm_rg u.2.1 0 4 ∧ mm_rg u.2.2.1 0 600 ∧ mm_rg u.2.2.2.2.2.1 0 3 ∧ (u.2.2.1 : Int32).toInt ≤ (u.1 : Int32).toInt ∧ (u.1 : Int32).toInt ≤ (i_2 : Int32).toInt ∧ mm_tk u.2.1 u.2.2.1 u.1 ∧ (i_5 : Int32).toInt ≤ (u.2.2.1 : Int32).toInt ∧ ((0 = r ∧ mm_rg i_0 1 6) ∨ (1 = r ∧ mm_rg i_0 1 5))) 0 0 := by
  refine mm_begin (lv := [(0, .ref a_0), (1, .int 1), (2, .int i_0), (3, .int 6)]) (by decide) (Nat.le_of_ble_eq_true rfl) rfl ?_
  intro p e s m below meth c A ls R args Q H locs hRe hQ hAe hx hb hr hlocks hml hown hnm hts hsz hA hS hP hK hD hZ hl
  have hRf : R.frames = 2 := by rw [hRe]
  have hRl : R.locals = 44 := by rw [hRe]
  have hRc : R.cells = 0 := by rw [hRe]
  have hRs : R.slots = 0 := by rw [hRe]
  refine lv_iload_n hx hb dX12_isRoom_0 rfl (lv_at hl 1 rfl) ?_
  refine lv_if_eq (tgt := 14) hx hb dX12_isRoom_1 (by decide) (fun c1 => ?_) (fun c1 => ?_)
  · exact mm_eqN c1.symm mm_k0 mm_k1 (by decide)
  · refine lv_iload_n hx hb dX12_isRoom_4 rfl (lv_at hl 2 rfl) ?_
    refine lv_iload_n hx hb dX12_isRoom_5 rfl (lv_at hl 3 rfl) ?_
    refine lv_icmp_ne (tgt := 14) hx hb dX12_isRoom_6 (by decide) (fun c2 => ?_) (fun c2 => ?_)
    · have q3 := mm_neH (hi := 5) (mm_ne c2) h0 mm_k6 (by decide) (by decide)
      refine lv_iload_n hx hb dX12_isRoom_14 rfl (lv_at hl 1 rfl) ?_
      refine lv_if_eq (tgt := 29) hx hb dX12_isRoom_15 (by decide) (fun c4 => ?_) (fun c4 => ?_)
      · exact mm_eqN c4.symm mm_k0 mm_k1 (by decide)
      · refine lv_aload_n hx hb dX12_isRoom_18 rfl (lv_at hl 0 rfl) ?_
        refine va_get (D := G) (ci := 12) (v := .int i_7) (C := RX12) (T := TX12) (N := 38) hx hb hts (mm_i inlX12) hown hK.1 hP 0 rfl rfl 12 (by decide) (mm_h hts mm_w436) (fun _ h9 => h9) rfl dX12_isRoom_19 ?_
        refine lv_if_ne (tgt := 29) hx hb dX12_isRoom_22 (by decide) (fun c5 => ?_) (fun c5 => ?_)
        · have q6 := mm_neL (lo := 1) (mm_ne c5) h5 mm_k0 (by decide) (by decide)
          refine lv_iload_n hx hb dX12_isRoom_29 rfl (lv_at hl 1 rfl) ?_
          refine lv_if_eq (tgt := 44) hx hb dX12_isRoom_30 (by decide) (fun c7 => ?_) (fun c7 => ?_)
          · exact mm_eqN c7.symm mm_k0 mm_k1 (by decide)
          · refine lv_aload_n hx hb dX12_isRoom_33 rfl (lv_at hl 0 rfl) ?_
            refine va_get (D := G) (ci := 12) (v := .int i_7) (C := RX12) (T := TX12) (N := 38) hx hb hts (mm_i inlX12) hown hK.1 hP 0 rfl rfl 12 (by decide) (mm_h hts mm_w436) (fun _ h9 => h9) rfl dX12_isRoom_34 ?_
            refine lv_if_ne (tgt := 44) hx hb dX12_isRoom_37 (by decide) (fun c8 => ?_) (fun c8 => ?_)
            · refine lv_iconst (v := 0) hx hb dX12_isRoom_44 (by decide) ?_
              have w9 : (i_5 : Int32).toInt ≤ (i_5 : Int32).toInt := (Int.le_refl _)
              subst hAe
              rw [hQ]
              exact W.zret (v := 0) hx hb hr rfl (fun t ht hW => ⟨⟨0, (i_3, i_4, i_5, i_6, j_0, i_7, i_8), rfl, ⟨h2, h3, h4, (mm_wk q6 (by decide)), h7, h8, h9, w9, (Or.inl ⟨rfl, (mm_wk q3 (by decide))⟩)⟩, by rw [ht]; exact hP, hK.warm hW, hD⟩, hS.F ht⟩) hS.2.2 dX12_isRoom_45
            · exact mm_eqN c8.symm mm_k0 q6 (by decide)
        · have q10 := mm_eqI (lo := 0) (hi := 0) c5 h5 mm_k0 (by decide)
          refine lv_aload_n hx hb dX12_isRoom_25 rfl (lv_at hl 0 rfl) ?_
          refine mm_finv (va_runV (As := []) (rest := []) ⟨hx, hb, hml, hown, hts⟩ (M22_X12_next l G cy H.size a_0 i_1 a_1 a_2 a_3 a_4 a_5 i_2 i_3 i_4 i_5 i_6 j_0 i_7 i_8 i_9 i_10 a_6 a_7 a_8 a_9 a_10 a_11 a_12 a_13 a_14 a_15 a_16 a_17 a_18 i_11 i_12 i_13 i_14 i_15 i_16 a_19 i_17 a_20 f_0 h1 h2 h3 h4 h6 h8) (cwV 0 hts (mm_gV mm_w451 mm_w452 mm_w453 mm_w5 mm_w454) rfl rfl rfl hd_X12_next ⟨by rw [hRf]; exact Nat.le_of_ble_eq_true rfl, by rw [hRl]; exact Nat.le_of_ble_eq_true rfl⟩) (mm_preV hK hZ hS hA hP hD [0, 1] rfl rfl 0 rfl rfl rfl) rfl rfl hl.1 rfl (lv_room (Nat.le_of_ble_eq_true rfl)) dX12_isRoom_26 ⟨by rw [hRc]; exact Nat.le_of_ble_eq_true rfl, by rw [hRs]; exact Nat.le_of_ble_eq_true rfl⟩) hP hD hS hA (fun u : Int32 × Int32 × Int32 × Int32 × Int64 => [(a_0, .inr (12, [.int i_1, .ref a_1, .ref a_2, .ref a_3, .ref a_4, .ref a_5, .int i_2, .int u.1, .int u.2.1, .int u.2.2.1, .int u.2.2.2.1, .long u.2.2.2.2, .int i_7, .int i_8, .int i_9, .int i_10, .ref a_6, .ref a_7, .ref a_8, .ref a_9, .ref a_10, .ref a_11, .ref a_12, .ref a_13, .ref a_14, .ref a_15, .ref a_16, .ref a_17, .ref a_18, .int i_11, .int i_12, .int i_13, .int i_14, .int i_15, .int i_16, .ref a_19, .int i_17, .ref a_20])), (a_5, .inl (cy 0, 600, .inl f_0))]) [0, 1] [] (n := 2) (fun _ => rfl) (by decide +kernel) (by decide +kernel) rfl (fun _ => rfl) (wr := []) rfl (fun _ => rfl) (fun _ => rfl) ?_
          clear hP hD hS
          clear H locs
          intro u
          obtain ⟨n11, n12, n13, n14, n15⟩ := u
          intro H locs hw (hP : va_P G vwCl [(a_0, .inr (12, [.int i_1, .ref a_1, .ref a_2, .ref a_3, .ref a_4, .ref a_5, .int i_2, .int n11, .int n12, .int n13, .int n14, .long n15, .int i_7, .int i_8, .int i_9, .int i_10, .ref a_6, .ref a_7, .ref a_8, .ref a_9, .ref a_10, .ref a_11, .ref a_12, .ref a_13, .ref a_14, .ref a_15, .ref a_16, .ref a_17, .ref a_18, .int i_11, .int i_12, .int i_13, .int i_14, .int i_15, .int i_16, .ref a_19, .int i_17, .ref a_20])), (a_5, .inl (cy 0, 600, .inl f_0))] H) (hD : va_D A [(a_0, .inr (12, [.int i_1, .ref a_1, .ref a_2, .ref a_3, .ref a_4, .ref a_5, .int i_2, .int n11, .int n12, .int n13, .int n14, .long n15, .int i_7, .int i_8, .int i_9, .int i_10, .ref a_6, .ref a_7, .ref a_8, .ref a_9, .ref a_10, .ref a_11, .ref a_12, .ref a_13, .ref a_14, .ref a_15, .ref a_16, .ref a_17, .ref a_18, .int i_11, .int i_12, .int i_13, .int i_14, .int i_15, .int i_16, .ref a_19, .int i_17, .ref a_20])), (a_5, .inl (cy 0, 600, .inl f_0))]) hS
          obtain ⟨w16, w17, w18, w19, w20, w21, w22⟩ := hw
          replace w19 : (n13 : Int32).toInt ≤ (n11 : Int32).toInt := w19
          replace w20 : (n11 : Int32).toInt ≤ (i_2 : Int32).toInt := w20
          replace w21 : mm_tk n12 n13 n11 := w21
          replace w22 : (i_3 : Int32).toInt ≤ (n13 : Int32).toInt := w22
          refine lv_iload_n hx hb dX12_isRoom_29 rfl (lv_at hl 1 rfl) ?_
          refine lv_if_eq (tgt := 44) hx hb dX12_isRoom_30 (by decide) (fun c23 => ?_) (fun c23 => ?_)
          · exact mm_eqN c23.symm mm_k0 mm_k1 (by decide)
          · refine lv_aload_n hx hb dX12_isRoom_33 rfl (lv_at hl 0 rfl) ?_
            refine va_get (D := G) (ci := 12) (v := .int i_7) (C := RX12) (T := TX12) (N := 38) hx hb hts (mm_i inlX12) hown hK.1 hP 0 rfl rfl 12 (by decide) (mm_h hts mm_w436) (fun _ h9 => h9) rfl dX12_isRoom_34 ?_
            refine lv_if_ne (tgt := 44) hx hb dX12_isRoom_37 (by decide) (fun c24 => ?_) (fun c24 => ?_)
            · have q25 := mm_neL (lo := 1) (mm_ne c24) q10 mm_k0 (by decide) (by decide)
              exact mm_no q25 (by decide)
            · refine lv_iconst (v := 1) hx hb dX12_isRoom_40 (by decide) ?_
              refine lv_goto (tgt := 45) hx hb dX12_isRoom_41 (by decide) ?_
              have w26 : (i_5 : Int32).toInt ≤ (n13 : Int32).toInt := (by have := h7; have := w22; omega)
              subst hAe
              rw [hQ]
              exact W.zret (v := 1) hx hb hr rfl (fun t ht hW => ⟨⟨1, (n11, n12, n13, n14, n15, i_7, i_8), rfl, ⟨w16, w17, w18, (mm_wk q10 (by decide)), w19, w20, w21, w26, (Or.inr ⟨rfl, q3⟩)⟩, by rw [ht]; exact hP, hK.warm hW, hD⟩, hS.F ht⟩) hS.2.2 dX12_isRoom_45
    · have q27 := mm_eqI (lo := 6) (hi := 6) c2 h0 mm_k6 (by decide)
      refine lv_aload_n hx hb dX12_isRoom_9 rfl (lv_at hl 0 rfl) ?_
      refine lv_iconst (v := 3) hx hb dX12_isRoom_10 (by decide) ?_
      refine mm_finv (va_runV (As := [.int 3]) (rest := []) ⟨hx, hb, hml, hown, hts⟩ (M45_X12_fails l G cy H.size a_0 i_1 a_1 a_2 a_3 a_4 a_5 i_2 i_3 i_4 i_5 i_6 j_0 i_7 i_8 i_9 i_10 a_6 a_7 a_8 a_9 a_10 a_11 a_12 a_13 a_14 a_15 a_16 a_17 a_18 i_11 i_12 i_13 i_14 i_15 i_16 a_19 i_17 a_20 h4 h5) (cwV 1 hts (mm_gV mm_w483 mm_w484 mm_w485 mm_w5 mm_w486) rfl rfl rfl hd_X12_fails ⟨by rw [hRf]; exact Nat.le_of_ble_eq_true rfl, by rw [hRl]; exact Nat.le_of_ble_eq_true rfl⟩) (mm_preV hK hZ hS hA hP hD [0] rfl rfl 0 rfl rfl rfl) rfl rfl hl.1 rfl (lv_room (Nat.le_of_ble_eq_true rfl)) dX12_isRoom_11 ⟨by rw [hRc]; exact Nat.le_of_ble_eq_true rfl, by rw [hRs]; exact Nat.le_of_ble_eq_true rfl⟩) hP hD hS hA (fun u : Int32 × Int32 => [(a_0, .inr (12, [.int i_1, .ref a_1, .ref a_2, .ref a_3, .ref a_4, .ref a_5, .int i_2, .int i_3, .int i_4, .int i_5, .int i_6, .long j_0, .int u.1, .int u.2, .int i_9, .int i_10, .ref a_6, .ref a_7, .ref a_8, .ref a_9, .ref a_10, .ref a_11, .ref a_12, .ref a_13, .ref a_14, .ref a_15, .ref a_16, .ref a_17, .ref a_18, .int i_11, .int i_12, .int i_13, .int i_14, .int i_15, .int i_16, .ref a_19, .int i_17, .ref a_20])), (a_5, .inl (cy 0, 600, .inl f_0))]) [0] [1] (n := 2) (fun _ => rfl) (by decide +kernel) (by decide +kernel) rfl (fun _ => rfl) (wr := [(a_5, .inl (cy 0, 600, .inl f_0))]) rfl (fun _ => rfl) (fun _ => rfl) ?_
      clear hP hD hS
      clear H locs
      intro u
      obtain ⟨n28, n29⟩ := u
      intro H locs hw (hP : va_P G vwCl [(a_0, .inr (12, [.int i_1, .ref a_1, .ref a_2, .ref a_3, .ref a_4, .ref a_5, .int i_2, .int i_3, .int i_4, .int i_5, .int i_6, .long j_0, .int n28, .int n29, .int i_9, .int i_10, .ref a_6, .ref a_7, .ref a_8, .ref a_9, .ref a_10, .ref a_11, .ref a_12, .ref a_13, .ref a_14, .ref a_15, .ref a_16, .ref a_17, .ref a_18, .int i_11, .int i_12, .int i_13, .int i_14, .int i_15, .int i_16, .ref a_19, .int i_17, .ref a_20])), (a_5, .inl (cy 0, 600, .inl f_0))] H) (hD : va_D A [(a_0, .inr (12, [.int i_1, .ref a_1, .ref a_2, .ref a_3, .ref a_4, .ref a_5, .int i_2, .int i_3, .int i_4, .int i_5, .int i_6, .long j_0, .int n28, .int n29, .int i_9, .int i_10, .ref a_6, .ref a_7, .ref a_8, .ref a_9, .ref a_10, .ref a_11, .ref a_12, .ref a_13, .ref a_14, .ref a_15, .ref a_16, .ref a_17, .ref a_18, .int i_11, .int i_12, .int i_13, .int i_14, .int i_15, .int i_16, .ref a_19, .int i_17, .ref a_20])), (a_5, .inl (cy 0, 600, .inl f_0))]) hS
      have w30 := hw
      refine lv_iload_n hx hb dX12_isRoom_14 rfl (lv_at hl 1 rfl) ?_
      refine lv_if_eq (tgt := 29) hx hb dX12_isRoom_15 (by decide) (fun c31 => ?_) (fun c31 => ?_)
      · exact mm_eqN c31.symm mm_k0 mm_k1 (by decide)
      · refine lv_aload_n hx hb dX12_isRoom_18 rfl (lv_at hl 0 rfl) ?_
        refine va_get (D := G) (ci := 12) (v := .int n28) (C := RX12) (T := TX12) (N := 38) hx hb hts (mm_i inlX12) hown hK.1 hP 0 rfl rfl 12 (by decide) (mm_h hts mm_w436) (fun _ h9 => h9) rfl dX12_isRoom_19 ?_
        refine lv_if_ne (tgt := 29) hx hb dX12_isRoom_22 (by decide) (fun c32 => ?_) (fun c32 => ?_)
        · refine lv_iload_n hx hb dX12_isRoom_29 rfl (lv_at hl 1 rfl) ?_
          refine lv_if_eq (tgt := 44) hx hb dX12_isRoom_30 (by decide) (fun c33 => ?_) (fun c33 => ?_)
          · exact mm_eqN c33.symm mm_k0 mm_k1 (by decide)
          · refine lv_aload_n hx hb dX12_isRoom_33 rfl (lv_at hl 0 rfl) ?_
            refine va_get (D := G) (ci := 12) (v := .int n28) (C := RX12) (T := TX12) (N := 38) hx hb hts (mm_i inlX12) hown hK.1 hP 0 rfl rfl 12 (by decide) (mm_h hts mm_w436) (fun _ h9 => h9) rfl dX12_isRoom_34 ?_
            refine lv_if_ne (tgt := 44) hx hb dX12_isRoom_37 (by decide) (fun c34 => ?_) (fun c34 => ?_)
            · refine lv_iconst (v := 0) hx hb dX12_isRoom_44 (by decide) ?_
              have w35 : (i_5 : Int32).toInt ≤ (i_5 : Int32).toInt := (Int.le_refl _)
              subst hAe
              rw [hQ]
              exact W.zret (v := 0) hx hb hr rfl (fun t ht hW => ⟨⟨0, (i_3, i_4, i_5, i_6, j_0, n28, n29), rfl, ⟨h2, h3, h4, (mm_wk w30 (by decide)), h7, h8, h9, w35, (Or.inl ⟨rfl, (mm_wk q27 (by decide))⟩)⟩, by rw [ht]; exact hP, hK.warm hW, hD⟩, hS.F ht⟩) hS.2.2 dX12_isRoom_45
            · exact mm_eqN c34.symm mm_k0 w30 (by decide)
        · exact mm_eqN c32.symm mm_k0 w30 (by decide)

set_option maxHeartbeats 4000000 in
set_option maxRecDepth 100000 in
theorem M70_X12_tells (l : Launch) (G : va_G) (cy : Nat → ClassId) (sz : Nat) (a_0 : Nat) (i_0 : Int32) (i_1 : Int32) (a_1 : Nat) (a_2 : Nat) (a_3 : Nat) (a_4 : Nat) (a_5 : Nat) (i_2 : Int32) (i_3 : Int32) (i_4 : Int32) (i_5 : Int32) (i_6 : Int32) (j_0 : Int64) (i_7 : Int32) (i_8 : Int32) (i_9 : Int32) (i_10 : Int32) (a_6 : Nat) (a_7 : Nat) (a_8 : Nat) (a_9 : Nat) (a_10 : Nat) (a_11 : Nat) (a_12 : Nat) (a_13 : Nat) (a_14 : Nat) (a_15 : Nat) (a_16 : Nat) (a_17 : Nat) (a_18 : Nat) (i_11 : Int32) (i_12 : Int32) (i_13 : Int32) (i_14 : Int32) (i_15 : Int32) (i_16 : Int32) (a_19 : Nat) (i_17 : Int32) (a_20 : Nat) (i_18 : Int32) (i_19 : Int32) (i_20 : Int32) (i_21 : Int32) (i_22 : Int32) (i_23 : Int32) (i_24 : Int32) (i_25 : Int32) (i_26 : Int32) (i_27 : Int32) (i_28 : Int32) (i_29 : Int32) (i_30 : Int32) (i_31 : Int32) (i_32 : Int32) (i_33 : Int32) (i_34 : Int32) (i_35 : Int32) (i_36 : Int32) (i_37 : Int32) (i_38 : Int32) (i_39 : Int32) (i_40 : Int32) (i_41 : Int32) (i_42 : Int32) (i_43 : Int32) (i_44 : Int32) (i_45 : Int32) (i_46 : Int32) (i_47 : Int32) (h0 : mm_rg i_0 2 6) (h1 : mm_rg i_18 0 10) (h2 : mm_rg i_19 0 99) (h3 : mm_rg i_20 0 9) (h4 : mm_rg i_21 0 3) (h5 : mm_rg i_22 0 6) (h6 : mm_rg i_23 0 30) (h7 : mm_rg i_24 0 10) (h8 : mm_rg i_25 0 99) (h9 : mm_rg i_26 0 9) (h10 : mm_rg i_27 0 3) (h11 : mm_rg i_28 0 6) (h12 : mm_rg i_29 0 30) (h13 : mm_rg i_30 0 10) (h14 : mm_rg i_31 0 99) (h15 : mm_rg i_32 0 9) (h16 : mm_rg i_33 0 3) (h17 : mm_rg i_34 0 6) (h18 : mm_rg i_35 0 30) (h19 : mm_rg i_36 0 10) (h20 : mm_rg i_37 0 99) (h21 : mm_rg i_38 0 9) (h22 : mm_rg i_39 0 3) (h23 : mm_rg i_40 0 6) (h24 : mm_rg i_41 0 30) (h25 : mm_rg i_42 0 10) (h26 : mm_rg i_43 0 99) (h27 : mm_rg i_44 0 9) (h28 : mm_rg i_45 0 3) (h29 : mm_rg i_46 0 6) (h30 : mm_rg i_47 0 30)  : mm_CV l yX12_tells (mm_ws yX12_tells cX12_tells 3 (none)) ({ frames := 0, cells := 0, slots := 0, locals := 0 } : Room) G cy sz [(a_0, .inr (12, [.int i_1, .ref a_1, .ref a_2, .ref a_3, .ref a_4, .ref a_5, .int i_2, .int i_3, .int i_4, .int i_5, .int i_6, .long j_0, .int i_7, .int i_8, .int i_9, .int i_10, .ref a_6, .ref a_7, .ref a_8, .ref a_9, .ref a_10, .ref a_11, .ref a_12, .ref a_13, .ref a_14, .ref a_15, .ref a_16, .ref a_17, .ref a_18, .int i_11, .int i_12, .int i_13, .int i_14, .int i_15, .int i_16, .ref a_19, .int i_17, .ref a_20])), (a_7, .inl (cy 1, 30, .inl (mm_g [i_18, i_19, i_20, i_21, i_22, i_23, i_24, i_25, i_26, i_27, i_28, i_29, i_30, i_31, i_32, i_33, i_34, i_35, i_36, i_37, i_38, i_39, i_40, i_41, i_42, i_43, i_44, i_45, i_46, i_47])))] [.ref a_0, .int 4, .int i_0] (fun u : Unit => [(a_0, .inr (12, [.int i_1, .ref a_1, .ref a_2, .ref a_3, .ref a_4, .ref a_5, .int i_2, .int i_3, .int i_4, .int i_5, .int i_6, .long j_0, .int i_7, .int i_8, .int i_9, .int i_10, .ref a_6, .ref a_7, .ref a_8, .ref a_9, .ref a_10, .ref a_11, .ref a_12, .ref a_13, .ref a_14, .ref a_15, .ref a_16, .ref a_17, .ref a_18, .int i_11, .int i_12, .int i_13, .int i_14, .int i_15, .int i_16, .ref a_19, .int i_17, .ref a_20])), (a_7, .inl (cy 1, 30, .inl (mm_g [i_18, i_19, i_20, i_21, i_22, i_23, i_24, i_25, i_26, i_27, i_28, i_29, i_30, i_31, i_32, i_33, i_34, i_35, i_36, i_37, i_38, i_39, i_40, i_41, i_42, i_43, i_44, i_45, i_0, i_47])))]) (fun u : Unit => True) 0 0 := by
  refine mm_begin (lv := [(0, .ref a_0), (1, .int 4), (2, .int i_0)]) (by decide) (Nat.le_of_ble_eq_true rfl) rfl ?_
  intro p e s m below meth c A ls R args Q H locs hRe hQ hAe hx hb hr hlocks hml hown hnm hts hsz hA hS hP hK hD hZ hl
  have hRf : R.frames = 0 := by rw [hRe]
  have hRl : R.locals = 0 := by rw [hRe]
  have hRc : R.cells = 0 := by rw [hRe]
  have hRs : R.slots = 0 := by rw [hRe]
  refine lv_aload_n hx hb dX12_tells_0 rfl (lv_at hl 0 rfl) ?_
  refine va_get (D := G) (ci := 12) (v := .ref a_7) (C := RX12) (T := TX12) (N := 38) hx hb hts (mm_i inlX12) hown hK.1 hP 0 rfl rfl 17 (by decide) (mm_h hts mm_w149) (fun _ h9 => h9) rfl dX12_tells_1 ?_
  refine lv_bipush (v := 24) hx hb dX12_tells_4 (by decide) ?_
  refine lv_iload_n hx hb dX12_tells_6 rfl (lv_at hl 1 rfl) ?_
  refine lv_iadd hx hb dX12_tells_7 ?_
  refine lv_topi (fun v1 ev1 => ?_)
  obtain rfl : v1 = 28 := ev1.trans (by decide)
  refine lv_iload_n hx hb dX12_tells_8 rfl (lv_at hl 2 rfl) ?_
  refine va_iast hx hb hK.1 hP hD hS 1 1 rfl rfl (mm_in mm_k28 (by decide)) dX12_tells_9 ?_
  clear hP hD hS
  clear H locs
  rw [show upd (mm_g [i_18, i_19, i_20, i_21, i_22, i_23, i_24, i_25, i_26, i_27, i_28, i_29, i_30, i_31, i_32, i_33, i_34, i_35, i_36, i_37, i_38, i_39, i_40, i_41, i_42, i_43, i_44, i_45, i_46, i_47]) (28 : Int32).toNatClampNeg i_0 = (mm_g [i_18, i_19, i_20, i_21, i_22, i_23, i_24, i_25, i_26, i_27, i_28, i_29, i_30, i_31, i_32, i_33, i_34, i_35, i_36, i_37, i_38, i_39, i_40, i_41, i_42, i_43, i_44, i_45, i_0, i_47]) from mm_gs2 28 30 (by decide) rfl rfl rfl]
  intro H locs (hP : va_P G vwCl [(a_0, .inr (12, [.int i_1, .ref a_1, .ref a_2, .ref a_3, .ref a_4, .ref a_5, .int i_2, .int i_3, .int i_4, .int i_5, .int i_6, .long j_0, .int i_7, .int i_8, .int i_9, .int i_10, .ref a_6, .ref a_7, .ref a_8, .ref a_9, .ref a_10, .ref a_11, .ref a_12, .ref a_13, .ref a_14, .ref a_15, .ref a_16, .ref a_17, .ref a_18, .int i_11, .int i_12, .int i_13, .int i_14, .int i_15, .int i_16, .ref a_19, .int i_17, .ref a_20])), (a_7, .inl (cy 1, 30, .inl (mm_g [i_18, i_19, i_20, i_21, i_22, i_23, i_24, i_25, i_26, i_27, i_28, i_29, i_30, i_31, i_32, i_33, i_34, i_35, i_36, i_37, i_38, i_39, i_40, i_41, i_42, i_43, i_44, i_45, i_0, i_47])))] H) (hD : va_D A [(a_0, .inr (12, [.int i_1, .ref a_1, .ref a_2, .ref a_3, .ref a_4, .ref a_5, .int i_2, .int i_3, .int i_4, .int i_5, .int i_6, .long j_0, .int i_7, .int i_8, .int i_9, .int i_10, .ref a_6, .ref a_7, .ref a_8, .ref a_9, .ref a_10, .ref a_11, .ref a_12, .ref a_13, .ref a_14, .ref a_15, .ref a_16, .ref a_17, .ref a_18, .int i_11, .int i_12, .int i_13, .int i_14, .int i_15, .int i_16, .ref a_19, .int i_17, .ref a_20])), (a_7, .inl (cy 1, 30, .inl (mm_g [i_18, i_19, i_20, i_21, i_22, i_23, i_24, i_25, i_26, i_27, i_28, i_29, i_30, i_31, i_32, i_33, i_34, i_35, i_36, i_37, i_38, i_39, i_40, i_41, i_42, i_43, i_44, i_45, i_0, i_47])))]) hS
  subst hAe
  rw [hQ]
  exact W.vret hx hb hr (fun t ht hW => ⟨⟨(), rfl, trivial, by rw [ht]; exact hP, hK.warm hW, hD⟩, hS.F ht⟩) hS.2.2 dX12_tells_10

set_option maxHeartbeats 4000000 in
set_option maxRecDepth 100000 in
theorem M71_X12_textLine (l : Launch) (G : va_G) (cy : Nat → ClassId) (sz : Nat) (a_0 : Nat) (i_0 : Int32) (a_1 : Nat) (a_2 : Nat) (a_3 : Nat) (a_4 : Nat) (a_5 : Nat) (i_1 : Int32) (i_2 : Int32) (i_3 : Int32) (i_4 : Int32) (i_5 : Int32) (j_0 : Int64) (i_6 : Int32) (i_7 : Int32) (i_8 : Int32) (i_9 : Int32) (a_6 : Nat) (a_7 : Nat) (a_8 : Nat) (a_9 : Nat) (a_10 : Nat) (a_11 : Nat) (a_12 : Nat) (a_13 : Nat) (a_14 : Nat) (a_15 : Nat) (a_16 : Nat) (a_17 : Nat) (a_18 : Nat) (i_10 : Int32) (i_11 : Int32) (i_12 : Int32) (i_13 : Int32) (i_14 : Int32) (i_15 : Int32) (a_19 : Nat) (i_16 : Int32) (a_20 : Nat) (f_0 : Nat → Int32) (i_17 : Int32) (i_18 : Int32) (i_19 : Int32) (i_20 : Int32) (i_21 : Int32) (i_22 : Int32) (i_23 : Int32) (i_24 : Int32) (i_25 : Int32) (i_26 : Int32) (i_27 : Int32) (i_28 : Int32) (i_29 : Int32) (i_30 : Int32) (i_31 : Int32) (i_32 : Int32) (i_33 : Int32) (i_34 : Int32) (i_35 : Int32) (i_36 : Int32) (i_37 : Int32) (i_38 : Int32) (i_39 : Int32) (i_40 : Int32) (i_41 : Int32) (i_42 : Int32) (i_43 : Int32) (i_44 : Int32) (i_45 : Int32) (i_46 : Int32) (f_1 : Nat → Int32) (f_2 : Nat → Int32) (h0 : mm_rg i_1 0 600) (h1 : mm_rg i_2 0 600) (h2 : mm_rg i_3 0 4) (h3 : mm_rg i_4 0 600) (h4 : mm_rg i_6 0 3) (h5 : mm_ar f_0 (-128) 127) (h6 : mm_rg i_17 0 10) (h7 : mm_rg i_18 0 99) (h8 : mm_rg i_19 0 9) (h9 : mm_rg i_20 0 3) (h10 : mm_rg i_21 0 6) (h11 : mm_rg i_22 0 30) (h12 : mm_rg i_23 0 10) (h13 : mm_rg i_24 0 99) (h14 : mm_rg i_25 0 9) (h15 : mm_rg i_26 0 3) (h16 : mm_rg i_27 0 6) (h17 : mm_rg i_28 0 30) (h18 : mm_rg i_29 0 10) (h19 : mm_rg i_30 0 99) (h20 : mm_rg i_31 0 9) (h21 : mm_rg i_32 0 3) (h22 : mm_rg i_33 0 6) (h23 : mm_rg i_34 0 30) (h24 : mm_rg i_35 0 10) (h25 : mm_rg i_36 0 99) (h26 : mm_rg i_37 0 9) (h27 : mm_rg i_38 0 3) (h28 : mm_rg i_39 0 6) (h29 : mm_rg i_40 0 30) (h30 : mm_rg i_41 0 10) (h31 : mm_rg i_42 0 99) (h32 : mm_rg i_43 0 9) (h33 : mm_rg i_44 0 3) (h34 : mm_rg i_45 1 5) (h35 : mm_rg i_46 0 30) (h36 : mm_ar f_1 0 8) (h37 : mm_ar f_2 0 9) (h38 : mm_txs f_1 f_2 0 i_19 i_21) (h39 : mm_txs f_1 f_2 1 i_25 i_27) (h40 : mm_txs f_1 f_2 2 i_31 i_33) (h41 : mm_txs f_1 f_2 3 i_37 i_39) (h42 : (i_4 : Int32).toInt ≤ (i_2 : Int32).toInt) (h43 : (i_2 : Int32).toInt ≤ (i_1 : Int32).toInt) (h44 : mm_tk i_3 i_4 i_2) (h45 : mm_txs f_1 f_2 4 i_43 i_45)  : mm_CV l yX12_textLine (mm_ws yX12_textLine cX12_textLine 3 (none)) ({ frames := 4, cells := 0, slots := 0, locals := 87 } : Room) G cy sz [(a_0, .inr (12, [.int i_0, .ref a_1, .ref a_2, .ref a_3, .ref a_4, .ref a_5, .int i_1, .int i_2, .int i_3, .int i_4, .int i_5, .long j_0, .int i_6, .int i_7, .int i_8, .int i_9, .ref a_6, .ref a_7, .ref a_8, .ref a_9, .ref a_10, .ref a_11, .ref a_12, .ref a_13, .ref a_14, .ref a_15, .ref a_16, .ref a_17, .ref a_18, .int i_10, .int i_11, .int i_12, .int i_13, .int i_14, .int i_15, .ref a_19, .int i_16, .ref a_20])), (a_5, .inl (cy 0, 600, .inl f_0)), (a_7, .inl (cy 1, 30, .inl (mm_g [i_17, i_18, i_19, i_20, i_21, i_22, i_23, i_24, i_25, i_26, i_27, i_28, i_29, i_30, i_31, i_32, i_33, i_34, i_35, i_36, i_37, i_38, i_39, i_40, i_41, i_42, i_43, i_44, i_45, i_46]))), (a_11, .inl (cy 1, 30, .inl f_1)), (a_12, .inl (cy 1, 240, .inl f_2))] [.ref a_0] (fun u : Int32 × Int32 × Int32 × Int32 × Int64 × Int32 × Int32 × Int32 × (Nat → Int32) × (Nat → Int32) => [(a_0, .inr (12, [.int i_0, .ref a_1, .ref a_2, .ref a_3, .ref a_4, .ref a_5, .int i_1, .int u.1, .int u.2.1, .int u.2.2.1, .int u.2.2.2.1, .long u.2.2.2.2.1, .int u.2.2.2.2.2.1, .int u.2.2.2.2.2.2.1, .int i_8, .int i_9, .ref a_6, .ref a_7, .ref a_8, .ref a_9, .ref a_10, .ref a_11, .ref a_12, .ref a_13, .ref a_14, .ref a_15, .ref a_16, .ref a_17, .ref a_18, .int i_10, .int i_11, .int i_12, .int i_13, .int i_14, .int i_15, .ref a_19, .int i_16, .ref a_20])), (a_5, .inl (cy 0, 600, .inl f_0)), (a_7, .inl (cy 1, 30, .inl (mm_g [i_17, i_18, i_19, i_20, i_21, i_22, i_23, i_24, i_25, i_26, i_27, i_28, i_29, i_30, i_31, i_32, i_33, i_34, i_35, i_36, i_37, i_38, i_39, i_40, i_41, i_42, i_43, i_44, u.2.2.2.2.2.2.2.1, i_46]))), (a_11, .inl (cy 1, 30, .inl u.2.2.2.2.2.2.2.2.1)), (a_12, .inl (cy 1, 240, .inl u.2.2.2.2.2.2.2.2.2))]) (fun u : Int32 × Int32 × Int32 × Int32 × Int64 × Int32 × Int32 × Int32 × (Nat → Int32) × (Nat → Int32) => mm_rg u.1 0 600 ∧ mm_rg u.2.1 0 4 ∧ mm_rg u.2.2.1 0 600 ∧ mm_rg u.2.2.2.2.2.1 0 3 ∧ mm_rg u.2.2.2.2.2.2.2.1 2 6 ∧ mm_ar u.2.2.2.2.2.2.2.2.1 0 8 ∧ mm_ar u.2.2.2.2.2.2.2.2.2 0 9 ∧ mm_txs u.2.2.2.2.2.2.2.2.1 u.2.2.2.2.2.2.2.2.2 0 i_19 i_21 ∧ mm_txs u.2.2.2.2.2.2.2.2.1 u.2.2.2.2.2.2.2.2.2 1 i_25 i_27 ∧ mm_txs u.2.2.2.2.2.2.2.2.1 u.2.2.2.2.2.2.2.2.2 2 i_31 i_33 ∧ mm_txs u.2.2.2.2.2.2.2.2.1 u.2.2.2.2.2.2.2.2.2 3 i_37 i_39 ∧ (u.2.2.1 : Int32).toInt ≤ (u.1 : Int32).toInt ∧ (u.1 : Int32).toInt ≤ (i_1 : Int32).toInt ∧ mm_tk u.2.1 u.2.2.1 u.1 ∧ (i_4 : Int32).toInt ≤ (u.2.2.1 : Int32).toInt ∧ mm_txs u.2.2.2.2.2.2.2.2.1 u.2.2.2.2.2.2.2.2.2 4 i_43 u.2.2.2.2.2.2.2.1 ∧ mm_fr f_1 u.2.2.2.2.2.2.2.2.1 24 ∧ mm_fr f_2 u.2.2.2.2.2.2.2.2.2 192) 0 0 := by
  refine mm_begin (lv := [(0, .ref a_0)]) (by decide) (Nat.le_of_ble_eq_true rfl) rfl ?_
  intro p e s m below meth c A ls R args Q H locs hRe hQ hAe hx hb hr hlocks hml hown hnm hts hsz hA hS hP hK hD hZ hl
  have hRf : R.frames = 4 := by rw [hRe]
  have hRl : R.locals = 87 := by rw [hRe]
  have hRc : R.cells = 0 := by rw [hRe]
  have hRs : R.slots = 0 := by rw [hRe]
  refine lv_bipush (v := 24) hx hb dX12_textLine_0 (by decide) ?_
  refine lv_aload_n hx hb dX12_textLine_2 rfl (lv_at hl 0 rfl) ?_
  refine lv_iconst (v := 4) hx hb dX12_textLine_3 (by decide) ?_
  refine mm_finir (va_runV (As := [.int 4]) (rest := [.int 24]) ⟨hx, hb, hml, hown, hts⟩ (M43_X12_hasRead l G cy H.size a_0 i_0 a_1 a_2 a_3 a_4 a_5 i_1 i_2 i_3 i_4 i_5 j_0 i_6 i_7 i_8 i_9 a_6 a_7 a_8 a_9 a_10 a_11 a_12 a_13 a_14 a_15 a_16 a_17 a_18 i_10 i_11 i_12 i_13 i_14 i_15 a_19 i_16 a_20 i_17 i_18 i_19 i_20 i_21 i_22 i_23 i_24 i_25 i_26 i_27 i_28 i_29 i_30 i_31 i_32 i_33 i_34 i_35 i_36 i_37 i_38 i_39 i_40 i_41 i_42 i_43 i_44 i_45 i_46 h6 h7 h8 h9 h10 h11 h12 h13 h14 h15 h16 h17 h18 h19 h20 h21 h22 h23 h24 h25 h26 h27 h28 h29 h30 h31 h32 h33 (mm_wk h34 (by decide)) h35) (cwV 1 hts (mm_gV mm_w503 mm_w504 mm_w505 mm_w5 mm_w506) rfl rfl rfl hd_X12_hasRead ⟨by rw [hRf]; exact Nat.le_of_ble_eq_true rfl, by rw [hRl]; exact Nat.le_of_ble_eq_true rfl⟩) (mm_preV hK hZ hS hA hP hD [0, 2] rfl rfl 0 rfl rfl rfl) rfl rfl hl.1 rfl (lv_room (Nat.le_of_ble_eq_true rfl)) dX12_textLine_4 ⟨by rw [hRc]; exact Nat.le_of_ble_eq_true rfl, by rw [hRs]; exact Nat.le_of_ble_eq_true rfl⟩) hP hD hS hA [0, 2] rfl (fun _ => rfl) ?_
  clear hP hD hS
  clear H locs
  intro v1 _u H locs hw hP hD hS
  subst hw
  refine lv_iadd hx hb dX12_textLine_7 ?_
  refine lv_topi (fun v2 ev2 => ?_)
  have rv2 : mm_rg v2 25 29 := mm_add ev2 mm_k24 h34 (by decide) (by decide)
  have tv2 := mm_addEd ev2 mm_k24 h34 (by decide) (k := 24) (by decide)
  refine lv_istore_n (lv' := [(1, .int v2), (0, .ref a_0)]) hx hb dX12_textLine_8 rfl hl (by decide) rfl ?_
  clear hl
  clear ls
  intro ls hl
  refine lv_aload_n hx hb dX12_textLine_9 rfl (lv_at hl 1 rfl) ?_
  refine va_get (D := G) (ci := 12) (v := .ref a_11) (C := RX12) (T := TX12) (N := 38) hx hb hts (mm_i inlX12) hown hK.1 hP 0 rfl rfl 21 (by decide) (mm_h hts mm_w153) (fun _ h9 => h9) rfl dX12_textLine_10 ?_
  refine lv_iload_n hx hb dX12_textLine_13 rfl (lv_at hl 0 rfl) ?_
  refine lv_iconst (v := 0) hx hb dX12_textLine_14 (by decide) ?_
  refine va_iast hx hb hK.1 hP hD hS 3 1 rfl rfl (mm_in rv2 (by decide)) dX12_textLine_15 ?_
  clear hP hD hS
  clear H locs
  obtain ⟨g3, eg3⟩ : ∃ z : Nat → Int32, z = upd f_1 v2.toNatClampNeg 0 := ⟨_, rfl⟩
  rw [← eg3]
  intro H locs (hP : va_P G vwCl [(a_0, .inr (12, [.int i_0, .ref a_1, .ref a_2, .ref a_3, .ref a_4, .ref a_5, .int i_1, .int i_2, .int i_3, .int i_4, .int i_5, .long j_0, .int i_6, .int i_7, .int i_8, .int i_9, .ref a_6, .ref a_7, .ref a_8, .ref a_9, .ref a_10, .ref a_11, .ref a_12, .ref a_13, .ref a_14, .ref a_15, .ref a_16, .ref a_17, .ref a_18, .int i_10, .int i_11, .int i_12, .int i_13, .int i_14, .int i_15, .ref a_19, .int i_16, .ref a_20])), (a_5, .inl (cy 0, 600, .inl f_0)), (a_7, .inl (cy 1, 30, .inl (mm_g [i_17, i_18, i_19, i_20, i_21, i_22, i_23, i_24, i_25, i_26, i_27, i_28, i_29, i_30, i_31, i_32, i_33, i_34, i_35, i_36, i_37, i_38, i_39, i_40, i_41, i_42, i_43, i_44, i_45, i_46]))), (a_11, .inl (cy 1, 30, .inl g3)), (a_12, .inl (cy 1, 240, .inl f_2))] H) (hD : va_D A [(a_0, .inr (12, [.int i_0, .ref a_1, .ref a_2, .ref a_3, .ref a_4, .ref a_5, .int i_1, .int i_2, .int i_3, .int i_4, .int i_5, .long j_0, .int i_6, .int i_7, .int i_8, .int i_9, .ref a_6, .ref a_7, .ref a_8, .ref a_9, .ref a_10, .ref a_11, .ref a_12, .ref a_13, .ref a_14, .ref a_15, .ref a_16, .ref a_17, .ref a_18, .int i_10, .int i_11, .int i_12, .int i_13, .int i_14, .int i_15, .ref a_19, .int i_16, .ref a_20])), (a_5, .inl (cy 0, 600, .inl f_0)), (a_7, .inl (cy 1, 30, .inl (mm_g [i_17, i_18, i_19, i_20, i_21, i_22, i_23, i_24, i_25, i_26, i_27, i_28, i_29, i_30, i_31, i_32, i_33, i_34, i_35, i_36, i_37, i_38, i_39, i_40, i_41, i_42, i_43, i_44, i_45, i_46]))), (a_11, .inl (cy 1, 30, .inl g3)), (a_12, .inl (cy 1, 240, .inl f_2))]) hS
  have rg3 : mm_ar g3 0 8 := by rw [eg3]; exact mm_ar_upd (mm_ar_wk h36 (by decide)) (mm_wk mm_k0 (by decide)) _
  refine lv_aload_n hx hb dX12_textLine_16 rfl (lv_at hl 1 rfl) ?_
  refine mm_fini (va_runV (As := []) (rest := []) ⟨hx, hb, hml, hown, hts⟩ (M48_X12_wordHere l G cy H.size a_0 i_0 a_1 a_2 a_3 a_4 a_5 i_1 i_2 i_3 i_4 i_5 j_0 i_6 i_7 i_8 i_9 a_6 a_7 a_8 a_9 a_10 a_11 a_12 a_13 a_14 a_15 a_16 a_17 a_18 i_10 i_11 i_12 i_13 i_14 i_15 a_19 i_16 a_20 f_0 i_17 i_18 i_19 i_20 i_21 i_22 i_23 i_24 i_25 i_26 i_27 i_28 i_29 i_30 i_31 i_32 i_33 i_34 i_35 i_36 i_37 i_38 i_39 i_40 i_41 i_42 i_43 i_44 i_45 i_46 h0 h1 h2 h3 h4 h5 h6 h7 h8 h9 h10 h11 h12 h13 h14 h15 h16 h17 h18 h19 h20 h21 h22 h23 h24 h25 h26 h27 h28 h29 h30 h31 h32 h33 (mm_wk h34 (by decide)) h35 h42 h43 h44) (cwV 0 hts (mm_gV mm_w532 mm_w533 mm_w534 mm_w5 mm_w535) rfl rfl rfl hd_X12_wordHere ⟨by rw [hRf]; exact Nat.le_of_ble_eq_true rfl, by rw [hRl]; exact Nat.le_of_ble_eq_true rfl⟩) (mm_preV hK hZ hS hA hP hD [0, 1, 2] rfl rfl 0 rfl rfl rfl) rfl rfl hl.1 rfl (lv_room (Nat.le_of_ble_eq_true rfl)) dX12_textLine_17 ⟨by rw [hRc]; exact Nat.le_of_ble_eq_true rfl, by rw [hRs]; exact Nat.le_of_ble_eq_true rfl⟩) hP hD hS hA (fun u : Int32 × Int32 × Int32 × Int32 × Int64 × Int32 × Int32 => [(a_0, .inr (12, [.int i_0, .ref a_1, .ref a_2, .ref a_3, .ref a_4, .ref a_5, .int i_1, .int u.1, .int u.2.1, .int u.2.2.1, .int u.2.2.2.1, .long u.2.2.2.2.1, .int u.2.2.2.2.2.1, .int u.2.2.2.2.2.2, .int i_8, .int i_9, .ref a_6, .ref a_7, .ref a_8, .ref a_9, .ref a_10, .ref a_11, .ref a_12, .ref a_13, .ref a_14, .ref a_15, .ref a_16, .ref a_17, .ref a_18, .int i_10, .int i_11, .int i_12, .int i_13, .int i_14, .int i_15, .ref a_19, .int i_16, .ref a_20])), (a_5, .inl (cy 0, 600, .inl f_0)), (a_7, .inl (cy 1, 30, .inl (mm_g [i_17, i_18, i_19, i_20, i_21, i_22, i_23, i_24, i_25, i_26, i_27, i_28, i_29, i_30, i_31, i_32, i_33, i_34, i_35, i_36, i_37, i_38, i_39, i_40, i_41, i_42, i_43, i_44, i_45, i_46]))), (a_11, .inl (cy 1, 30, .inl g3)), (a_12, .inl (cy 1, 240, .inl f_2))]) [0, 1, 2] [3, 4] (n := 5) (fun _ => rfl) (by decide +kernel) (by decide +kernel) rfl (fun _ => rfl) (wr := [(a_11, .inl (cy 1, 30, .inl g3)), (a_12, .inl (cy 1, 240, .inl f_2))]) rfl (fun _ => rfl) (fun _ => @rfl _ ([a_0, a_5, a_7] : List Nat)) ?_
  clear hP hD hS
  clear H locs
  intro v11 u
  obtain ⟨n4, n5, n6, n7, n8, n9, n10⟩ := u
  intro H locs hw (hP : va_P G vwCl [(a_0, .inr (12, [.int i_0, .ref a_1, .ref a_2, .ref a_3, .ref a_4, .ref a_5, .int i_1, .int n4, .int n5, .int n6, .int n7, .long n8, .int n9, .int n10, .int i_8, .int i_9, .ref a_6, .ref a_7, .ref a_8, .ref a_9, .ref a_10, .ref a_11, .ref a_12, .ref a_13, .ref a_14, .ref a_15, .ref a_16, .ref a_17, .ref a_18, .int i_10, .int i_11, .int i_12, .int i_13, .int i_14, .int i_15, .ref a_19, .int i_16, .ref a_20])), (a_5, .inl (cy 0, 600, .inl f_0)), (a_7, .inl (cy 1, 30, .inl (mm_g [i_17, i_18, i_19, i_20, i_21, i_22, i_23, i_24, i_25, i_26, i_27, i_28, i_29, i_30, i_31, i_32, i_33, i_34, i_35, i_36, i_37, i_38, i_39, i_40, i_41, i_42, i_43, i_44, i_45, i_46]))), (a_11, .inl (cy 1, 30, .inl g3)), (a_12, .inl (cy 1, 240, .inl f_2))] H) (hD : va_D A [(a_0, .inr (12, [.int i_0, .ref a_1, .ref a_2, .ref a_3, .ref a_4, .ref a_5, .int i_1, .int n4, .int n5, .int n6, .int n7, .long n8, .int n9, .int n10, .int i_8, .int i_9, .ref a_6, .ref a_7, .ref a_8, .ref a_9, .ref a_10, .ref a_11, .ref a_12, .ref a_13, .ref a_14, .ref a_15, .ref a_16, .ref a_17, .ref a_18, .int i_10, .int i_11, .int i_12, .int i_13, .int i_14, .int i_15, .ref a_19, .int i_16, .ref a_20])), (a_5, .inl (cy 0, 600, .inl f_0)), (a_7, .inl (cy 1, 30, .inl (mm_g [i_17, i_18, i_19, i_20, i_21, i_22, i_23, i_24, i_25, i_26, i_27, i_28, i_29, i_30, i_31, i_32, i_33, i_34, i_35, i_36, i_37, i_38, i_39, i_40, i_41, i_42, i_43, i_44, i_45, i_46]))), (a_11, .inl (cy 1, 30, .inl g3)), (a_12, .inl (cy 1, 240, .inl f_2))]) hS
  obtain ⟨w12, w13, w14, w15, w16, w17, w18, w19, w20, hw⟩ := hw
  replace w16 : (n6 : Int32).toInt ≤ (n4 : Int32).toInt := w16
  replace w17 : (n4 : Int32).toInt ≤ (i_1 : Int32).toInt := w17
  replace w18 : mm_tk n5 n6 n4 := w18
  replace w19 : (i_4 : Int32).toInt ≤ (n6 : Int32).toInt := w19
  replace w20 : mm_b0 i_6 n9 := w20
  obtain ⟨w21, w22, w23⟩ := hw
  replace w22 : (v11 : Int32).toInt ≤ (i_43 : Int32).toInt := w22
  replace w23 : mm_nv n9 v11 i_3 i_5 := w23
  refine lv_istore_n (lv' := [(2, .int v11), (1, .int v2), (0, .ref a_0)]) hx hb dX12_textLine_20 rfl hl (by decide) rfl ?_
  clear hl
  clear ls
  intro ls hl
  have L21_133 : ∀ (n : Nat) (x21_2_115 : Int32) (y21_0_7_116 : Int32) (y21_0_8_117 : Int32) (y21_0_9_118 : Int32) (y21_0_10_119 : Int32) (y21_0_11_120 : Int64) (y21_0_12_121 : Int32) (y21_0_13_122 : Int32) (z21_3_123 : Nat → Int32) (z21_4_124 : Nat → Int32), mm_rg x21_2_115 0 9 → mm_rg y21_0_7_116 0 600 → mm_rg y21_0_8_117 0 4 → mm_rg y21_0_9_118 0 600 → mm_rg y21_0_12_121 0 3 → mm_ar z21_3_123 0 8 → mm_ar z21_4_124 0 9 → (y21_0_9_118 : Int32).toInt ≤ (y21_0_7_116 : Int32).toInt → (y21_0_7_116 : Int32).toInt ≤ (i_1 : Int32).toInt → mm_tk y21_0_8_117 y21_0_9_118 y21_0_7_116 → (i_4 : Int32).toInt ≤ (y21_0_9_118 : Int32).toInt → mm_b7 z21_3_123 v2 y21_0_12_121 → mm_fr f_1 z21_3_123 24 → mm_fr f_2 z21_4_124 192 → mm_txl f_1 f_2 z21_3_123 z21_4_124 v2 i_43 → (x21_2_115 : Int32).toInt ≤ (i_43 : Int32).toInt → (if (y21_0_12_121 : Int32).toInt = 0 then (8 - (z21_3_123 (v2 : Int32).toNatClampNeg).toInt).toNat + 1 else 0) < n → ∀ (H : Heap) (locs : List Loc), va_P G vwCl [(a_0, .inr (12, [.int i_0, .ref a_1, .ref a_2, .ref a_3, .ref a_4, .ref a_5, .int i_1, .int y21_0_7_116, .int y21_0_8_117, .int y21_0_9_118, .int y21_0_10_119, .long y21_0_11_120, .int y21_0_12_121, .int y21_0_13_122, .int i_8, .int i_9, .ref a_6, .ref a_7, .ref a_8, .ref a_9, .ref a_10, .ref a_11, .ref a_12, .ref a_13, .ref a_14, .ref a_15, .ref a_16, .ref a_17, .ref a_18, .int i_10, .int i_11, .int i_12, .int i_13, .int i_14, .int i_15, .ref a_19, .int i_16, .ref a_20])), (a_5, .inl (cy 0, 600, .inl f_0)), (a_7, .inl (cy 1, 30, .inl (mm_g [i_17, i_18, i_19, i_20, i_21, i_22, i_23, i_24, i_25, i_26, i_27, i_28, i_29, i_30, i_31, i_32, i_33, i_34, i_35, i_36, i_37, i_38, i_39, i_40, i_41, i_42, i_43, i_44, i_45, i_46]))), (a_11, .inl (cy 1, 30, .inl z21_3_123)), (a_12, .inl (cy 1, 240, .inl z21_4_124))] H → va_D A [(a_0, .inr (12, [.int i_0, .ref a_1, .ref a_2, .ref a_3, .ref a_4, .ref a_5, .int i_1, .int y21_0_7_116, .int y21_0_8_117, .int y21_0_9_118, .int y21_0_10_119, .long y21_0_11_120, .int y21_0_12_121, .int y21_0_13_122, .int i_8, .int i_9, .ref a_6, .ref a_7, .ref a_8, .ref a_9, .ref a_10, .ref a_11, .ref a_12, .ref a_13, .ref a_14, .ref a_15, .ref a_16, .ref a_17, .ref a_18, .int i_10, .int i_11, .int i_12, .int i_13, .int i_14, .int i_15, .ref a_19, .int i_16, .ref a_20])), (a_5, .inl (cy 0, 600, .inl f_0)), (a_7, .inl (cy 1, 30, .inl (mm_g [i_17, i_18, i_19, i_20, i_21, i_22, i_23, i_24, i_25, i_26, i_27, i_28, i_29, i_30, i_31, i_32, i_33, i_34, i_35, i_36, i_37, i_38, i_39, i_40, i_41, i_42, i_43, i_44, i_45, i_46]))), (a_11, .inl (cy 1, 30, .inl z21_3_123)), (a_12, .inl (cy 1, 240, .inl z21_4_124))] → va_S A s.heap H locs → ∀ (ls : Array Slot), lv_has ls 3 [(2, .int x21_2_115), (1, .int v2), (0, .ref a_0)] → W p l e R s m args below meth c H locs 0 0 Q (F0 m 21 ls []) := by
    intro n
    induction n with
    | zero => intro x21_2_115 y21_0_7_116 y21_0_8_117 y21_0_9_118 y21_0_10_119 y21_0_11_120 y21_0_12_121 y21_0_13_122 z21_3_123 z21_4_124 rx21_2_115 ry21_0_7_116 ry21_0_8_117 ry21_0_9_118 ry21_0_12_121 rz21_3_123 rz21_4_124 w125 w126 w127 w128 w129 w130 w131 w132 w133 hm; exact absurd hm (Nat.not_lt_zero _)
    | succ n ih21 =>
      intro x21_2_115 y21_0_7_116 y21_0_8_117 y21_0_9_118 y21_0_10_119 y21_0_11_120 y21_0_12_121 y21_0_13_122 z21_3_123 z21_4_124 rx21_2_115 ry21_0_7_116 ry21_0_8_117 ry21_0_9_118 ry21_0_12_121 rz21_3_123 rz21_4_124 w125 w126 w127 w128 w129 w130 w131 w132 w133 hm21 H locs hP hD hS ls hl
      refine lv_aload_n hx hb dX12_textLine_21 rfl (lv_at hl 2 rfl) ?_
      refine va_get (D := G) (ci := 12) (v := .int y21_0_12_121) (C := RX12) (T := TX12) (N := 38) hx hb hts (mm_i inlX12) hown hK.1 hP 0 rfl rfl 12 (by decide) (mm_h hts mm_w436) (fun _ h9 => h9) rfl dX12_textLine_22 ?_
      refine lv_if_ne (tgt := 106) hx hb dX12_textLine_25 (by decide) (fun c135 => ?_) (fun c135 => ?_)
      · have q136 := mm_neL (lo := 1) (mm_ne c135) ry21_0_12_121 mm_k0 (by decide) (by decide)
        refine lv_aload_n hx hb dX12_textLine_106 rfl (lv_at hl 2 rfl) ?_
        refine lv_iconst (v := 4) hx hb dX12_textLine_107 (by decide) ?_
        refine lv_aload_n hx hb dX12_textLine_108 rfl (lv_at hl 2 rfl) ?_
        refine lv_iconst (v := 4) hx hb dX12_textLine_109 (by decide) ?_
        refine mm_finir (va_runV (As := [.int 4]) (rest := [.int 4, .ref a_0]) ⟨hx, hb, hml, hown, hts⟩ (M43_X12_hasRead l G cy H.size a_0 i_0 a_1 a_2 a_3 a_4 a_5 i_1 y21_0_7_116 y21_0_8_117 y21_0_9_118 y21_0_10_119 y21_0_11_120 y21_0_12_121 y21_0_13_122 i_8 i_9 a_6 a_7 a_8 a_9 a_10 a_11 a_12 a_13 a_14 a_15 a_16 a_17 a_18 i_10 i_11 i_12 i_13 i_14 i_15 a_19 i_16 a_20 i_17 i_18 i_19 i_20 i_21 i_22 i_23 i_24 i_25 i_26 i_27 i_28 i_29 i_30 i_31 i_32 i_33 i_34 i_35 i_36 i_37 i_38 i_39 i_40 i_41 i_42 i_43 i_44 i_45 i_46 h6 h7 h8 h9 h10 h11 h12 h13 h14 h15 h16 h17 h18 h19 h20 h21 h22 h23 h24 h25 h26 h27 h28 h29 h30 h31 h32 h33 (mm_wk h34 (by decide)) h35) (cwV 1 hts (mm_gV mm_w503 mm_w504 mm_w505 mm_w5 mm_w506) rfl rfl rfl hd_X12_hasRead ⟨by rw [hRf]; exact Nat.le_of_ble_eq_true rfl, by rw [hRl]; exact Nat.le_of_ble_eq_true rfl⟩) (mm_preV hK hZ hS hA hP hD [0, 2] rfl rfl 0 rfl rfl rfl) rfl rfl hl.1 rfl (lv_room (Nat.le_of_ble_eq_true rfl)) dX12_textLine_110 ⟨by rw [hRc]; exact Nat.le_of_ble_eq_true rfl, by rw [hRs]; exact Nat.le_of_ble_eq_true rfl⟩) hP hD hS hA [0, 2] rfl (fun _ => rfl) ?_
        clear hP hD hS
        clear H locs
        intro v137 _u H locs hw hP hD hS
        subst hw
        refine lv_iconst (v := 1) hx hb dX12_textLine_113 (by decide) ?_
        refine lv_iadd hx hb dX12_textLine_114 ?_
        refine lv_topi (fun v138 ev138 => ?_)
        have rv138 : mm_rg v138 2 6 := mm_add ev138 h34 mm_k1 (by decide) (by decide)
        have tv138 := mm_addEc ev138 h34 mm_k1 (by decide) (k := 1) (by decide)
        refine mm_finv (va_runV (As := [.int 4, .int v138]) (rest := []) ⟨hx, hb, hml, hown, hts⟩ (M70_X12_tells l G cy H.size a_0 v138 i_0 a_1 a_2 a_3 a_4 a_5 i_1 y21_0_7_116 y21_0_8_117 y21_0_9_118 y21_0_10_119 y21_0_11_120 y21_0_12_121 y21_0_13_122 i_8 i_9 a_6 a_7 a_8 a_9 a_10 a_11 a_12 a_13 a_14 a_15 a_16 a_17 a_18 i_10 i_11 i_12 i_13 i_14 i_15 a_19 i_16 a_20 i_17 i_18 i_19 i_20 i_21 i_22 i_23 i_24 i_25 i_26 i_27 i_28 i_29 i_30 i_31 i_32 i_33 i_34 i_35 i_36 i_37 i_38 i_39 i_40 i_41 i_42 i_43 i_44 i_45 i_46 rv138 h6 h7 h8 h9 h10 h11 h12 h13 h14 h15 h16 h17 h18 h19 h20 h21 h22 h23 h24 h25 h26 h27 h28 h29 h30 h31 h32 h33 (mm_wk h34 (by decide)) h35) (cwV 2 hts (mm_gV mm_w441 mm_w442 mm_w443 mm_w5 mm_w444) rfl rfl rfl hd_X12_tells ⟨by rw [hRf]; exact Nat.le_of_ble_eq_true rfl, by rw [hRl]; exact Nat.le_of_ble_eq_true rfl⟩) (mm_preV hK hZ hS hA hP hD [0, 2] rfl rfl 0 rfl rfl rfl) rfl rfl hl.1 rfl (lv_room (Nat.le_of_ble_eq_true rfl)) dX12_textLine_115 ⟨by rw [hRc]; exact Nat.le_of_ble_eq_true rfl, by rw [hRs]; exact Nat.le_of_ble_eq_true rfl⟩) hP hD hS hA (fun u : Unit => [(a_0, .inr (12, [.int i_0, .ref a_1, .ref a_2, .ref a_3, .ref a_4, .ref a_5, .int i_1, .int y21_0_7_116, .int y21_0_8_117, .int y21_0_9_118, .int y21_0_10_119, .long y21_0_11_120, .int y21_0_12_121, .int y21_0_13_122, .int i_8, .int i_9, .ref a_6, .ref a_7, .ref a_8, .ref a_9, .ref a_10, .ref a_11, .ref a_12, .ref a_13, .ref a_14, .ref a_15, .ref a_16, .ref a_17, .ref a_18, .int i_10, .int i_11, .int i_12, .int i_13, .int i_14, .int i_15, .ref a_19, .int i_16, .ref a_20])), (a_5, .inl (cy 0, 600, .inl f_0)), (a_7, .inl (cy 1, 30, .inl (mm_g [i_17, i_18, i_19, i_20, i_21, i_22, i_23, i_24, i_25, i_26, i_27, i_28, i_29, i_30, i_31, i_32, i_33, i_34, i_35, i_36, i_37, i_38, i_39, i_40, i_41, i_42, i_43, i_44, v138, i_46]))), (a_11, .inl (cy 1, 30, .inl z21_3_123)), (a_12, .inl (cy 1, 240, .inl z21_4_124))]) [0, 2] [1, 3, 4] (n := 5) (fun _ => rfl) (by decide +kernel) (by decide +kernel) rfl (fun _ => rfl) (wr := [(a_5, .inl (cy 0, 600, .inl f_0)), (a_11, .inl (cy 1, 30, .inl z21_3_123)), (a_12, .inl (cy 1, 240, .inl z21_4_124))]) rfl (fun _ => rfl) (fun _ => @rfl _ ([a_0, a_7] : List Nat)) ?_
        clear hP hD hS
        clear H locs
        intro _u H locs hw (hP : va_P G vwCl [(a_0, .inr (12, [.int i_0, .ref a_1, .ref a_2, .ref a_3, .ref a_4, .ref a_5, .int i_1, .int y21_0_7_116, .int y21_0_8_117, .int y21_0_9_118, .int y21_0_10_119, .long y21_0_11_120, .int y21_0_12_121, .int y21_0_13_122, .int i_8, .int i_9, .ref a_6, .ref a_7, .ref a_8, .ref a_9, .ref a_10, .ref a_11, .ref a_12, .ref a_13, .ref a_14, .ref a_15, .ref a_16, .ref a_17, .ref a_18, .int i_10, .int i_11, .int i_12, .int i_13, .int i_14, .int i_15, .ref a_19, .int i_16, .ref a_20])), (a_5, .inl (cy 0, 600, .inl f_0)), (a_7, .inl (cy 1, 30, .inl (mm_g [i_17, i_18, i_19, i_20, i_21, i_22, i_23, i_24, i_25, i_26, i_27, i_28, i_29, i_30, i_31, i_32, i_33, i_34, i_35, i_36, i_37, i_38, i_39, i_40, i_41, i_42, i_43, i_44, v138, i_46]))), (a_11, .inl (cy 1, 30, .inl z21_3_123)), (a_12, .inl (cy 1, 240, .inl z21_4_124))] H) (hD : va_D A [(a_0, .inr (12, [.int i_0, .ref a_1, .ref a_2, .ref a_3, .ref a_4, .ref a_5, .int i_1, .int y21_0_7_116, .int y21_0_8_117, .int y21_0_9_118, .int y21_0_10_119, .long y21_0_11_120, .int y21_0_12_121, .int y21_0_13_122, .int i_8, .int i_9, .ref a_6, .ref a_7, .ref a_8, .ref a_9, .ref a_10, .ref a_11, .ref a_12, .ref a_13, .ref a_14, .ref a_15, .ref a_16, .ref a_17, .ref a_18, .int i_10, .int i_11, .int i_12, .int i_13, .int i_14, .int i_15, .ref a_19, .int i_16, .ref a_20])), (a_5, .inl (cy 0, 600, .inl f_0)), (a_7, .inl (cy 1, 30, .inl (mm_g [i_17, i_18, i_19, i_20, i_21, i_22, i_23, i_24, i_25, i_26, i_27, i_28, i_29, i_30, i_31, i_32, i_33, i_34, i_35, i_36, i_37, i_38, i_39, i_40, i_41, i_42, i_43, i_44, v138, i_46]))), (a_11, .inl (cy 1, 30, .inl z21_3_123)), (a_12, .inl (cy 1, 240, .inl z21_4_124))]) hS
        have w139 : mm_txs z21_3_123 z21_4_124 0 i_19 i_21 := (mm_txs_fr h38 w130 w131 (by decide))
        have w140 : mm_txs z21_3_123 z21_4_124 1 i_25 i_27 := (mm_txs_fr h39 w130 w131 (by decide))
        have w141 : mm_txs z21_3_123 z21_4_124 2 i_31 i_33 := (mm_txs_fr h40 w130 w131 (by decide))
        have w142 : mm_txs z21_3_123 z21_4_124 3 i_37 i_39 := (mm_txs_fr h41 w130 w131 (by decide))
        have w143 : mm_txs z21_3_123 z21_4_124 4 i_43 v138 := (mm_txs_t h45 w132 (by have := tv2; omega) (by have := tv138; omega) h34 (by decide))
        subst hAe
        rw [hQ]
        exact W.vret hx hb hr (fun t ht hW => ⟨⟨(y21_0_7_116, y21_0_8_117, y21_0_9_118, y21_0_10_119, y21_0_11_120, y21_0_12_121, y21_0_13_122, v138, z21_3_123, z21_4_124), rfl, ⟨ry21_0_7_116, ry21_0_8_117, ry21_0_9_118, (mm_wk q136 (by decide)), rv138, rz21_3_123, rz21_4_124, w139, w140, w141, w142, w125, w126, w127, w128, w143, w130, w131⟩, by rw [ht]; exact hP, hK.warm hW, hD⟩, hS.F ht⟩) hS.2.2 dX12_textLine_118
      · have q144 := mm_eqI (lo := 0) (hi := 0) c135 ry21_0_12_121 mm_k0 (by decide)
        refine lv_aload_n hx hb dX12_textLine_28 rfl (lv_at hl 2 rfl) ?_
        refine va_get (D := G) (ci := 12) (v := .ref a_12) (C := RX12) (T := TX12) (N := 38) hx hb hts (mm_i inlX12) hown hK.1 hP 0 rfl rfl 22 (by decide) (mm_h hts mm_w154) (fun _ h9 => h9) rfl dX12_textLine_29 ?_
        refine lv_bipush (v := 8) hx hb dX12_textLine_32 (by decide) ?_
        refine lv_iload_n hx hb dX12_textLine_34 rfl (lv_at hl 1 rfl) ?_
        refine lv_imul hx hb dX12_textLine_35 ?_
        refine lv_topi (fun v145 ev145 => ?_)
        have rv145 : mm_rg v145 200 232 := mm_mul ev145 mm_k8 rv2 (by decide) (by decide)
        have tv145 := mm_mulEc ev145 mm_k8 rv2 (by decide) (k := 8) (by decide)
        refine lv_aload_n hx hb dX12_textLine_36 rfl (lv_at hl 2 rfl) ?_
        refine va_get (D := G) (ci := 12) (v := .ref a_11) (C := RX12) (T := TX12) (N := 38) hx hb hts (mm_i inlX12) hown hK.1 hP 0 rfl rfl 21 (by decide) (mm_h hts mm_w153) (fun _ h9 => h9) rfl dX12_textLine_37 ?_
        refine lv_iload_n hx hb dX12_textLine_40 rfl (lv_at hl 1 rfl) ?_
        refine va_iald hx hb hK.1 hP 3 1 rfl rfl (mm_in rv2 (by decide)) dX12_textLine_41 ?_
        refine lv_topi (fun v146 ev146 => ?_)
        have rv146 : mm_rg v146 0 8 := mm_eqv ev146 (rz21_3_123 _)
        have q147 : mm_rg v146 0 7 := mm_b7_ld w129 q144 ev146 rv146 (by decide)
        refine lv_iadd hx hb dX12_textLine_42 ?_
        refine lv_topi (fun v148 ev148 => ?_)
        have rv148 : mm_rg v148 200 239 := mm_add ev148 rv145 q147 (by decide) (by decide)
        have tv148 := mm_addE ev148 rv145 q147 (by decide)
        refine lv_iload_n hx hb dX12_textLine_43 rfl (lv_at hl 0 rfl) ?_
        refine va_iast hx hb hK.1 hP hD hS 4 1 rfl rfl (mm_in rv148 (by decide)) dX12_textLine_44 ?_
        clear hP hD hS
        clear H locs
        obtain ⟨g149, eg149⟩ : ∃ z : Nat → Int32, z = upd z21_4_124 v148.toNatClampNeg x21_2_115 := ⟨_, rfl⟩
        rw [← eg149]
        intro H locs (hP : va_P G vwCl [(a_0, .inr (12, [.int i_0, .ref a_1, .ref a_2, .ref a_3, .ref a_4, .ref a_5, .int i_1, .int y21_0_7_116, .int y21_0_8_117, .int y21_0_9_118, .int y21_0_10_119, .long y21_0_11_120, .int y21_0_12_121, .int y21_0_13_122, .int i_8, .int i_9, .ref a_6, .ref a_7, .ref a_8, .ref a_9, .ref a_10, .ref a_11, .ref a_12, .ref a_13, .ref a_14, .ref a_15, .ref a_16, .ref a_17, .ref a_18, .int i_10, .int i_11, .int i_12, .int i_13, .int i_14, .int i_15, .ref a_19, .int i_16, .ref a_20])), (a_5, .inl (cy 0, 600, .inl f_0)), (a_7, .inl (cy 1, 30, .inl (mm_g [i_17, i_18, i_19, i_20, i_21, i_22, i_23, i_24, i_25, i_26, i_27, i_28, i_29, i_30, i_31, i_32, i_33, i_34, i_35, i_36, i_37, i_38, i_39, i_40, i_41, i_42, i_43, i_44, i_45, i_46]))), (a_11, .inl (cy 1, 30, .inl z21_3_123)), (a_12, .inl (cy 1, 240, .inl g149))] H) (hD : va_D A [(a_0, .inr (12, [.int i_0, .ref a_1, .ref a_2, .ref a_3, .ref a_4, .ref a_5, .int i_1, .int y21_0_7_116, .int y21_0_8_117, .int y21_0_9_118, .int y21_0_10_119, .long y21_0_11_120, .int y21_0_12_121, .int y21_0_13_122, .int i_8, .int i_9, .ref a_6, .ref a_7, .ref a_8, .ref a_9, .ref a_10, .ref a_11, .ref a_12, .ref a_13, .ref a_14, .ref a_15, .ref a_16, .ref a_17, .ref a_18, .int i_10, .int i_11, .int i_12, .int i_13, .int i_14, .int i_15, .ref a_19, .int i_16, .ref a_20])), (a_5, .inl (cy 0, 600, .inl f_0)), (a_7, .inl (cy 1, 30, .inl (mm_g [i_17, i_18, i_19, i_20, i_21, i_22, i_23, i_24, i_25, i_26, i_27, i_28, i_29, i_30, i_31, i_32, i_33, i_34, i_35, i_36, i_37, i_38, i_39, i_40, i_41, i_42, i_43, i_44, i_45, i_46]))), (a_11, .inl (cy 1, 30, .inl z21_3_123)), (a_12, .inl (cy 1, 240, .inl g149))]) hS
        have rg149 : mm_ar g149 0 9 := by rw [eg149]; exact mm_ar_upd (mm_ar_wk rz21_4_124 (by decide)) (mm_wk rx21_2_115 (by decide)) _
        refine lv_aload_n hx hb dX12_textLine_45 rfl (lv_at hl 2 rfl) ?_
        refine va_get (D := G) (ci := 12) (v := .ref a_11) (C := RX12) (T := TX12) (N := 38) hx hb hts (mm_i inlX12) hown hK.1 hP 0 rfl rfl 21 (by decide) (mm_h hts mm_w153) (fun _ h9 => h9) rfl dX12_textLine_46 ?_
        refine lv_iload_n hx hb dX12_textLine_49 rfl (lv_at hl 1 rfl) ?_
        refine lv_dup2_11 hx hb dX12_textLine_50 rfl rfl ?_
        refine va_iald hx hb hK.1 hP 3 1 rfl rfl (mm_in rv2 (by decide)) dX12_textLine_51 ?_
        refine lv_topi (fun v150 ev150 => ?_)
        have rv150 : mm_rg v150 0 8 := mm_eqv ev150 (rz21_3_123 _)
        have q151 : mm_rg v150 0 7 := mm_b7_ld w129 q144 ev150 rv150 (by decide)
        obtain rfl : v146 = v150 := ev146.trans ev150.symm
        refine lv_iconst (v := 1) hx hb dX12_textLine_52 (by decide) ?_
        refine lv_iadd hx hb dX12_textLine_53 ?_
        refine lv_topi (fun v152 ev152 => ?_)
        have rv152 : mm_rg v152 1 8 := mm_add ev152 q147 mm_k1 (by decide) (by decide)
        have tv152 := mm_addEc ev152 q147 mm_k1 (by decide) (k := 1) (by decide)
        refine va_iast hx hb hK.1 hP hD hS 3 1 rfl rfl (mm_in rv2 (by decide)) dX12_textLine_54 ?_
        clear hP hD hS
        clear H locs
        obtain ⟨g153, eg153⟩ : ∃ z : Nat → Int32, z = upd z21_3_123 v2.toNatClampNeg v152 := ⟨_, rfl⟩
        rw [← eg153]
        intro H locs (hP : va_P G vwCl [(a_0, .inr (12, [.int i_0, .ref a_1, .ref a_2, .ref a_3, .ref a_4, .ref a_5, .int i_1, .int y21_0_7_116, .int y21_0_8_117, .int y21_0_9_118, .int y21_0_10_119, .long y21_0_11_120, .int y21_0_12_121, .int y21_0_13_122, .int i_8, .int i_9, .ref a_6, .ref a_7, .ref a_8, .ref a_9, .ref a_10, .ref a_11, .ref a_12, .ref a_13, .ref a_14, .ref a_15, .ref a_16, .ref a_17, .ref a_18, .int i_10, .int i_11, .int i_12, .int i_13, .int i_14, .int i_15, .ref a_19, .int i_16, .ref a_20])), (a_5, .inl (cy 0, 600, .inl f_0)), (a_7, .inl (cy 1, 30, .inl (mm_g [i_17, i_18, i_19, i_20, i_21, i_22, i_23, i_24, i_25, i_26, i_27, i_28, i_29, i_30, i_31, i_32, i_33, i_34, i_35, i_36, i_37, i_38, i_39, i_40, i_41, i_42, i_43, i_44, i_45, i_46]))), (a_11, .inl (cy 1, 30, .inl g153)), (a_12, .inl (cy 1, 240, .inl g149))] H) (hD : va_D A [(a_0, .inr (12, [.int i_0, .ref a_1, .ref a_2, .ref a_3, .ref a_4, .ref a_5, .int i_1, .int y21_0_7_116, .int y21_0_8_117, .int y21_0_9_118, .int y21_0_10_119, .long y21_0_11_120, .int y21_0_12_121, .int y21_0_13_122, .int i_8, .int i_9, .ref a_6, .ref a_7, .ref a_8, .ref a_9, .ref a_10, .ref a_11, .ref a_12, .ref a_13, .ref a_14, .ref a_15, .ref a_16, .ref a_17, .ref a_18, .int i_10, .int i_11, .int i_12, .int i_13, .int i_14, .int i_15, .ref a_19, .int i_16, .ref a_20])), (a_5, .inl (cy 0, 600, .inl f_0)), (a_7, .inl (cy 1, 30, .inl (mm_g [i_17, i_18, i_19, i_20, i_21, i_22, i_23, i_24, i_25, i_26, i_27, i_28, i_29, i_30, i_31, i_32, i_33, i_34, i_35, i_36, i_37, i_38, i_39, i_40, i_41, i_42, i_43, i_44, i_45, i_46]))), (a_11, .inl (cy 1, 30, .inl g153)), (a_12, .inl (cy 1, 240, .inl g149))]) hS
        have rg153 : mm_ar g153 0 8 := by rw [eg153]; exact mm_ar_upd (mm_ar_wk rz21_3_123 (by decide)) (mm_wk rv152 (by decide)) _
        refine lv_aload_n hx hb dX12_textLine_55 rfl (lv_at hl 2 rfl) ?_
        refine va_get (D := G) (ci := 12) (v := .int y21_0_8_117) (C := RX12) (T := TX12) (N := 38) hx hb hts (mm_i inlX12) hown hK.1 hP 0 rfl rfl 8 (by decide) (mm_h hts mm_w432) (fun _ h9 => h9) rfl dX12_textLine_56 ?_
        refine lv_iconst (v := 2) hx hb dX12_textLine_59 (by decide) ?_
        refine lv_icmp_eq (tgt := 66) hx hb dX12_textLine_60 (by decide) (fun c154 => ?_) (fun c154 => ?_)
        · have q155 := mm_eqI (lo := 2) (hi := 2) c154 ry21_0_8_117 mm_k2 (by decide)
          refine lv_aload_n hx hb dX12_textLine_66 rfl (lv_at hl 2 rfl) ?_
          refine va_get (D := G) (ci := 12) (v := .ref a_11) (C := RX12) (T := TX12) (N := 38) hx hb hts (mm_i inlX12) hown hK.1 hP 0 rfl rfl 21 (by decide) (mm_h hts mm_w153) (fun _ h9 => h9) rfl dX12_textLine_67 ?_
          refine lv_iload_n hx hb dX12_textLine_70 rfl (lv_at hl 1 rfl) ?_
          refine va_iald hx hb hK.1 hP 3 1 rfl rfl (mm_in rv2 (by decide)) dX12_textLine_71 ?_
          refine lv_topi (fun v156 ev156 => ?_)
          obtain rfl : v152 = v156 := (ev156.trans (by rw [eg153]; exact pk_us)).symm
          refine lv_bipush (v := 8) hx hb dX12_textLine_72 (by decide) ?_
          refine lv_icmp_ne (tgt := 98) hx hb dX12_textLine_74 (by decide) (fun c157 => ?_) (fun c157 => ?_)
          · have q158 := mm_neH (hi := 7) (mm_ne c157) rv152 mm_k8 (by decide) (by decide)
            have q159 : mm_rg v146 0 6 := mm_unadd tv152 q158 q147 (by decide) (by decide)
            refine lv_aload_n hx hb dX12_textLine_98 rfl (lv_at hl 2 rfl) ?_
            refine mm_fini (va_runV (As := []) (rest := []) ⟨hx, hb, hml, hown, hts⟩ (M50_X12_wordHere l G cy H.size a_0 i_0 a_1 a_2 a_3 a_4 a_5 i_1 y21_0_7_116 y21_0_8_117 y21_0_9_118 y21_0_10_119 y21_0_11_120 y21_0_12_121 y21_0_13_122 i_8 i_9 a_6 a_7 a_8 a_9 a_10 a_11 a_12 a_13 a_14 a_15 a_16 a_17 a_18 i_10 i_11 i_12 i_13 i_14 i_15 a_19 i_16 a_20 f_0 i_17 i_18 i_19 i_20 i_21 i_22 i_23 i_24 i_25 i_26 i_27 i_28 i_29 i_30 i_31 i_32 i_33 i_34 i_35 i_36 i_37 i_38 i_39 i_40 i_41 i_42 i_43 i_44 i_45 i_46 h0 ry21_0_7_116 (mm_wk q155 (by decide)) ry21_0_9_118 q144 h5 h6 h7 h8 h9 h10 h11 h12 h13 h14 h15 h16 h17 h18 h19 h20 h21 h22 h23 h24 h25 h26 h27 h28 h29 h30 h31 h32 h33 (mm_wk h34 (by decide)) h35 w125 w126 w127) (cwV 0 hts (mm_gV mm_w532 mm_w533 mm_w534 mm_w5 mm_w535) rfl rfl rfl hd_X12_wordHere ⟨by rw [hRf]; exact Nat.le_of_ble_eq_true rfl, by rw [hRl]; exact Nat.le_of_ble_eq_true rfl⟩) (mm_preV hK hZ hS hA hP hD [0, 1, 2] rfl rfl 0 rfl rfl rfl) rfl rfl hl.1 rfl (lv_room (Nat.le_of_ble_eq_true rfl)) dX12_textLine_99 ⟨by rw [hRc]; exact Nat.le_of_ble_eq_true rfl, by rw [hRs]; exact Nat.le_of_ble_eq_true rfl⟩) hP hD hS hA (fun u : Int32 × Int32 × Int32 × Int32 × Int64 × Int32 × Int32 => [(a_0, .inr (12, [.int i_0, .ref a_1, .ref a_2, .ref a_3, .ref a_4, .ref a_5, .int i_1, .int u.1, .int u.2.1, .int u.2.2.1, .int u.2.2.2.1, .long u.2.2.2.2.1, .int u.2.2.2.2.2.1, .int u.2.2.2.2.2.2, .int i_8, .int i_9, .ref a_6, .ref a_7, .ref a_8, .ref a_9, .ref a_10, .ref a_11, .ref a_12, .ref a_13, .ref a_14, .ref a_15, .ref a_16, .ref a_17, .ref a_18, .int i_10, .int i_11, .int i_12, .int i_13, .int i_14, .int i_15, .ref a_19, .int i_16, .ref a_20])), (a_5, .inl (cy 0, 600, .inl f_0)), (a_7, .inl (cy 1, 30, .inl (mm_g [i_17, i_18, i_19, i_20, i_21, i_22, i_23, i_24, i_25, i_26, i_27, i_28, i_29, i_30, i_31, i_32, i_33, i_34, i_35, i_36, i_37, i_38, i_39, i_40, i_41, i_42, i_43, i_44, i_45, i_46]))), (a_11, .inl (cy 1, 30, .inl g153)), (a_12, .inl (cy 1, 240, .inl g149))]) [0, 1, 2] [3, 4] (n := 5) (fun _ => rfl) (by decide +kernel) (by decide +kernel) rfl (fun _ => rfl) (wr := [(a_11, .inl (cy 1, 30, .inl g153)), (a_12, .inl (cy 1, 240, .inl g149))]) rfl (fun _ => rfl) (fun _ => @rfl _ ([a_0, a_5, a_7] : List Nat)) ?_
            clear hP hD hS
            clear H locs
            intro v167 u
            obtain ⟨n160, n161, n162, n163, n164, n165, n166⟩ := u
            intro H locs hw (hP : va_P G vwCl [(a_0, .inr (12, [.int i_0, .ref a_1, .ref a_2, .ref a_3, .ref a_4, .ref a_5, .int i_1, .int n160, .int n161, .int n162, .int n163, .long n164, .int n165, .int n166, .int i_8, .int i_9, .ref a_6, .ref a_7, .ref a_8, .ref a_9, .ref a_10, .ref a_11, .ref a_12, .ref a_13, .ref a_14, .ref a_15, .ref a_16, .ref a_17, .ref a_18, .int i_10, .int i_11, .int i_12, .int i_13, .int i_14, .int i_15, .ref a_19, .int i_16, .ref a_20])), (a_5, .inl (cy 0, 600, .inl f_0)), (a_7, .inl (cy 1, 30, .inl (mm_g [i_17, i_18, i_19, i_20, i_21, i_22, i_23, i_24, i_25, i_26, i_27, i_28, i_29, i_30, i_31, i_32, i_33, i_34, i_35, i_36, i_37, i_38, i_39, i_40, i_41, i_42, i_43, i_44, i_45, i_46]))), (a_11, .inl (cy 1, 30, .inl g153)), (a_12, .inl (cy 1, 240, .inl g149))] H) (hD : va_D A [(a_0, .inr (12, [.int i_0, .ref a_1, .ref a_2, .ref a_3, .ref a_4, .ref a_5, .int i_1, .int n160, .int n161, .int n162, .int n163, .long n164, .int n165, .int n166, .int i_8, .int i_9, .ref a_6, .ref a_7, .ref a_8, .ref a_9, .ref a_10, .ref a_11, .ref a_12, .ref a_13, .ref a_14, .ref a_15, .ref a_16, .ref a_17, .ref a_18, .int i_10, .int i_11, .int i_12, .int i_13, .int i_14, .int i_15, .ref a_19, .int i_16, .ref a_20])), (a_5, .inl (cy 0, 600, .inl f_0)), (a_7, .inl (cy 1, 30, .inl (mm_g [i_17, i_18, i_19, i_20, i_21, i_22, i_23, i_24, i_25, i_26, i_27, i_28, i_29, i_30, i_31, i_32, i_33, i_34, i_35, i_36, i_37, i_38, i_39, i_40, i_41, i_42, i_43, i_44, i_45, i_46]))), (a_11, .inl (cy 1, 30, .inl g153)), (a_12, .inl (cy 1, 240, .inl g149))]) hS
            obtain ⟨w168, w169, w170, w171, w172, w173, w174, w175, w176, hw⟩ := hw
            replace w172 : (n162 : Int32).toInt ≤ (n160 : Int32).toInt := w172
            replace w173 : (n160 : Int32).toInt ≤ (i_1 : Int32).toInt := w173
            replace w174 : mm_tk n161 n162 n160 := w174
            replace w175 : (y21_0_9_118 : Int32).toInt ≤ (n162 : Int32).toInt := w175
            replace w176 : mm_b0 y21_0_12_121 n165 := w176
            obtain ⟨w177, w178, w179⟩ := hw
            replace w178 : (v167 : Int32).toInt ≤ (i_43 : Int32).toInt := w178
            replace w179 : mm_nv n165 v167 y21_0_8_117 y21_0_10_119 := w179
            refine lv_istore_n (lv' := [(2, .int v167), (1, .int v2), (0, .ref a_0)]) hx hb dX12_textLine_102 rfl hl (by decide) rfl ?_
            clear hl
            clear ls
            intro ls hl
            refine lv_goto (tgt := 21) hx hb dX12_textLine_103 (by decide) ?_
            exact ih21 v167 n160 n161 n162 n163 n164 n165 n166 g153 g149 w177 w168 w169 w170 w171 rg153 rg149 w172 w173 w174 (by have := w128; have := w175; omega) (mm_b7_u eg153 q158 (by decide)) (mm_fr_u w130 eg153 rv2 (by decide)) (mm_fr_u w131 eg149 rv148 (by decide)) (mm_txl_s w132 eg153 eg149 ev146 tv152 (by have := tv148; have := tv145; omega) w133 rx21_2_115 q159 rv2 (by decide)) w178 (mm_tmM hm21 q144 ev146 eg153 tv152 q159 (by decide)) H locs hP hD hS ls (lv_sub hl [0, 1, 2] rfl)
          · have q180 := mm_eqI (lo := 8) (hi := 8) c157 rv152 mm_k8 (by decide)
            have q181 : mm_rg v146 7 7 := mm_unadd tv152 q180 q147 (by decide) (by decide)
            refine lv_aload_n hx hb dX12_textLine_77 rfl (lv_at hl 2 rfl) ?_
            refine lv_aload_n hx hb dX12_textLine_78 rfl (lv_at hl 2 rfl) ?_
            refine va_get (D := G) (ci := 12) (v := .int y21_0_10_119) (C := RX12) (T := TX12) (N := 38) hx hb hts (mm_i inlX12) hown hK.1 hP 0 rfl rfl 10 (by decide) (mm_h hts mm_w456) (fun _ h9 => h9) rfl dX12_textLine_79 ?_
            refine lv_aload_n hx hb dX12_textLine_82 rfl (lv_at hl 2 rfl) ?_
            refine lv_iconst (v := 2) hx hb dX12_textLine_83 (by decide) ?_
            refine mm_finir (va_runV (As := [.int 2]) (rest := [.int y21_0_10_119, .ref a_0]) ⟨hx, hb, hml, hown, hts⟩ (M37_X12_hasRead l G cy H.size a_0 i_0 a_1 a_2 a_3 a_4 a_5 i_1 y21_0_7_116 y21_0_8_117 y21_0_9_118 y21_0_10_119 y21_0_11_120 y21_0_12_121 y21_0_13_122 i_8 i_9 a_6 a_7 a_8 a_9 a_10 a_11 a_12 a_13 a_14 a_15 a_16 a_17 a_18 i_10 i_11 i_12 i_13 i_14 i_15 a_19 i_16 a_20 i_17 i_18 i_19 i_20 i_21 i_22 i_23 i_24 i_25 i_26 i_27 i_28 i_29 i_30 i_31 i_32 i_33 i_34 i_35 i_36 i_37 i_38 i_39 i_40 i_41 i_42 i_43 i_44 i_45 i_46 h6 h7 h8 h9 h10 h11 h12 h13 h14 h15 h16 h17 h18 h19 h20 h21 h22 h23 h24 h25 h26 h27 h28 h29 h30 h31 h32 h33 (mm_wk h34 (by decide)) h35) (cwV 1 hts (mm_gV mm_w503 mm_w504 mm_w505 mm_w5 mm_w506) rfl rfl rfl hd_X12_hasRead ⟨by rw [hRf]; exact Nat.le_of_ble_eq_true rfl, by rw [hRl]; exact Nat.le_of_ble_eq_true rfl⟩) (mm_preV hK hZ hS hA hP hD [0, 2] rfl rfl 0 rfl rfl rfl) rfl rfl hl.1 rfl (lv_room (Nat.le_of_ble_eq_true rfl)) dX12_textLine_84 ⟨by rw [hRc]; exact Nat.le_of_ble_eq_true rfl, by rw [hRs]; exact Nat.le_of_ble_eq_true rfl⟩) hP hD hS hA [0, 2] rfl (fun _ => rfl) ?_
            clear hP hD hS
            clear H locs
            intro v182 _u H locs hw hP hD hS
            subst hw
            refine lv_icmp_gt (tgt := 94) hx hb dX12_textLine_87 (by decide) (fun c183 => ?_) (fun c183 => ?_)
            · have q184 := mm_ltR (lo := 1) (mm_lt c183) h32 (mm_top y21_0_10_119) (by decide)
              refine lv_iconst (v := 2) hx hb dX12_textLine_94 (by decide) ?_
              refine mm_finv (va_runV (As := [.int 2]) (rest := []) ⟨hx, hb, hml, hown, hts⟩ (M29_X12_fails l G cy H.size a_0 i_0 a_1 a_2 a_3 a_4 a_5 i_1 y21_0_7_116 y21_0_8_117 y21_0_9_118 y21_0_10_119 y21_0_11_120 y21_0_12_121 y21_0_13_122 i_8 i_9 a_6 a_7 a_8 a_9 a_10 a_11 a_12 a_13 a_14 a_15 a_16 a_17 a_18 i_10 i_11 i_12 i_13 i_14 i_15 a_19 i_16 a_20 ry21_0_9_118 (mm_wk q144 (by decide))) (cwV 1 hts (mm_gV mm_w483 mm_w484 mm_w485 mm_w5 mm_w486) rfl rfl rfl hd_X12_fails ⟨by rw [hRf]; exact Nat.le_of_ble_eq_true rfl, by rw [hRl]; exact Nat.le_of_ble_eq_true rfl⟩) (mm_preV hK hZ hS hA hP hD [0] rfl rfl 0 rfl rfl rfl) rfl rfl hl.1 rfl (lv_room (Nat.le_of_ble_eq_true rfl)) dX12_textLine_95 ⟨by rw [hRc]; exact Nat.le_of_ble_eq_true rfl, by rw [hRs]; exact Nat.le_of_ble_eq_true rfl⟩) hP hD hS hA (fun u : Int32 × Int32 => [(a_0, .inr (12, [.int i_0, .ref a_1, .ref a_2, .ref a_3, .ref a_4, .ref a_5, .int i_1, .int y21_0_7_116, .int y21_0_8_117, .int y21_0_9_118, .int y21_0_10_119, .long y21_0_11_120, .int u.1, .int u.2, .int i_8, .int i_9, .ref a_6, .ref a_7, .ref a_8, .ref a_9, .ref a_10, .ref a_11, .ref a_12, .ref a_13, .ref a_14, .ref a_15, .ref a_16, .ref a_17, .ref a_18, .int i_10, .int i_11, .int i_12, .int i_13, .int i_14, .int i_15, .ref a_19, .int i_16, .ref a_20])), (a_5, .inl (cy 0, 600, .inl f_0)), (a_7, .inl (cy 1, 30, .inl (mm_g [i_17, i_18, i_19, i_20, i_21, i_22, i_23, i_24, i_25, i_26, i_27, i_28, i_29, i_30, i_31, i_32, i_33, i_34, i_35, i_36, i_37, i_38, i_39, i_40, i_41, i_42, i_43, i_44, i_45, i_46]))), (a_11, .inl (cy 1, 30, .inl g153)), (a_12, .inl (cy 1, 240, .inl g149))]) [0] [1, 2, 3, 4] (n := 5) (fun _ => rfl) (by decide +kernel) (by decide +kernel) rfl (fun _ => rfl) (wr := [(a_5, .inl (cy 0, 600, .inl f_0)), (a_7, .inl (cy 1, 30, .inl (mm_g [i_17, i_18, i_19, i_20, i_21, i_22, i_23, i_24, i_25, i_26, i_27, i_28, i_29, i_30, i_31, i_32, i_33, i_34, i_35, i_36, i_37, i_38, i_39, i_40, i_41, i_42, i_43, i_44, i_45, i_46]))), (a_11, .inl (cy 1, 30, .inl g153)), (a_12, .inl (cy 1, 240, .inl g149))]) rfl (fun _ => rfl) (fun _ => rfl) ?_
              clear hP hD hS
              clear H locs
              intro u
              obtain ⟨n185, n186⟩ := u
              intro H locs hw (hP : va_P G vwCl [(a_0, .inr (12, [.int i_0, .ref a_1, .ref a_2, .ref a_3, .ref a_4, .ref a_5, .int i_1, .int y21_0_7_116, .int y21_0_8_117, .int y21_0_9_118, .int y21_0_10_119, .long y21_0_11_120, .int n185, .int n186, .int i_8, .int i_9, .ref a_6, .ref a_7, .ref a_8, .ref a_9, .ref a_10, .ref a_11, .ref a_12, .ref a_13, .ref a_14, .ref a_15, .ref a_16, .ref a_17, .ref a_18, .int i_10, .int i_11, .int i_12, .int i_13, .int i_14, .int i_15, .ref a_19, .int i_16, .ref a_20])), (a_5, .inl (cy 0, 600, .inl f_0)), (a_7, .inl (cy 1, 30, .inl (mm_g [i_17, i_18, i_19, i_20, i_21, i_22, i_23, i_24, i_25, i_26, i_27, i_28, i_29, i_30, i_31, i_32, i_33, i_34, i_35, i_36, i_37, i_38, i_39, i_40, i_41, i_42, i_43, i_44, i_45, i_46]))), (a_11, .inl (cy 1, 30, .inl g153)), (a_12, .inl (cy 1, 240, .inl g149))] H) (hD : va_D A [(a_0, .inr (12, [.int i_0, .ref a_1, .ref a_2, .ref a_3, .ref a_4, .ref a_5, .int i_1, .int y21_0_7_116, .int y21_0_8_117, .int y21_0_9_118, .int y21_0_10_119, .long y21_0_11_120, .int n185, .int n186, .int i_8, .int i_9, .ref a_6, .ref a_7, .ref a_8, .ref a_9, .ref a_10, .ref a_11, .ref a_12, .ref a_13, .ref a_14, .ref a_15, .ref a_16, .ref a_17, .ref a_18, .int i_10, .int i_11, .int i_12, .int i_13, .int i_14, .int i_15, .ref a_19, .int i_16, .ref a_20])), (a_5, .inl (cy 0, 600, .inl f_0)), (a_7, .inl (cy 1, 30, .inl (mm_g [i_17, i_18, i_19, i_20, i_21, i_22, i_23, i_24, i_25, i_26, i_27, i_28, i_29, i_30, i_31, i_32, i_33, i_34, i_35, i_36, i_37, i_38, i_39, i_40, i_41, i_42, i_43, i_44, i_45, i_46]))), (a_11, .inl (cy 1, 30, .inl g153)), (a_12, .inl (cy 1, 240, .inl g149))]) hS
              have w187 := hw
              refine lv_aload_n hx hb dX12_textLine_98 rfl (lv_at hl 2 rfl) ?_
              refine mm_finir (va_runV (As := []) (rest := []) ⟨hx, hb, hml, hown, hts⟩ (M52_X12_wordHere l G cy H.size a_0 i_0 a_1 a_2 a_3 a_4 a_5 i_1 y21_0_7_116 y21_0_8_117 y21_0_9_118 y21_0_10_119 y21_0_11_120 n185 n186 i_8 i_9 a_6 a_7 a_8 a_9 a_10 a_11 a_12 a_13 a_14 a_15 a_16 a_17 a_18 i_10 i_11 i_12 i_13 i_14 i_15 a_19 i_16 a_20 i_17 i_18 i_19 i_20 i_21 i_22 i_23 i_24 i_25 i_26 i_27 i_28 i_29 i_30 i_31 i_32 i_33 i_34 i_35 i_36 i_37 i_38 i_39 i_40 i_41 i_42 i_43 i_44 i_45 i_46 ry21_0_7_116 (mm_wk q155 (by decide)) ry21_0_9_118 w187 h6 h7 h8 h9 h10 h11 h12 h13 h14 h15 h16 h17 h18 h19 h20 h21 h22 h23 h24 h25 h26 h27 h28 h29 h30 h31 h32 h33 (mm_wk h34 (by decide)) h35 w125 w126 w127) (cwV 0 hts (mm_gV mm_w532 mm_w533 mm_w534 mm_w5 mm_w535) rfl rfl rfl hd_X12_wordHere ⟨by rw [hRf]; exact Nat.le_of_ble_eq_true rfl, by rw [hRl]; exact Nat.le_of_ble_eq_true rfl⟩) (mm_preV hK hZ hS hA hP hD [0, 2] rfl rfl 0 rfl rfl rfl) rfl rfl hl.1 rfl (lv_room (Nat.le_of_ble_eq_true rfl)) dX12_textLine_99 ⟨by rw [hRc]; exact Nat.le_of_ble_eq_true rfl, by rw [hRs]; exact Nat.le_of_ble_eq_true rfl⟩) hP hD hS hA [0, 2] rfl (fun _ => rfl) ?_
              clear hP hD hS
              clear H locs
              intro v188 _u H locs hw hP hD hS
              obtain ⟨rfl, w189, w190⟩ := hw
              refine lv_istore_n (lv' := [(2, .int 0), (1, .int v2), (0, .ref a_0)]) hx hb dX12_textLine_102 rfl hl (by decide) rfl ?_
              clear hl
              clear ls
              intro ls hl
              refine lv_goto (tgt := 21) hx hb dX12_textLine_103 (by decide) ?_
              exact ih21 0 y21_0_7_116 y21_0_8_117 y21_0_9_118 y21_0_10_119 y21_0_11_120 n185 n186 g153 g149 (mm_wk mm_k0 (by decide)) ry21_0_7_116 (mm_wk q155 (by decide)) ry21_0_9_118 (mm_wk w187 (by decide)) rg153 rg149 w125 w126 w127 w128 (mm_b7_n w187 (by decide)) (mm_fr_u w130 eg153 rv2 (by decide)) (mm_fr_u w131 eg149 rv148 (by decide)) (mm_txl_s w132 eg153 eg149 ev146 tv152 (by have := tv148; have := tv145; omega) w133 rx21_2_115 q181 rv2 (by decide)) w189 (mm_tmM hm21 q144 ev146 eg153 tv152 q181 (by decide)) H locs hP hD hS ls (lv_sub hl [0, 1, 2] rfl)
            · have q191 := mm_leL (mm_nlt c183) (mm_top y21_0_10_119) h32
              refine lv_iconst (v := 3) hx hb dX12_textLine_90 (by decide) ?_
              refine lv_goto (tgt := 95) hx hb dX12_textLine_91 (by decide) ?_
              refine mm_finv (va_runV (As := [.int 3]) (rest := []) ⟨hx, hb, hml, hown, hts⟩ (M45_X12_fails l G cy H.size a_0 i_0 a_1 a_2 a_3 a_4 a_5 i_1 y21_0_7_116 y21_0_8_117 y21_0_9_118 y21_0_10_119 y21_0_11_120 y21_0_12_121 y21_0_13_122 i_8 i_9 a_6 a_7 a_8 a_9 a_10 a_11 a_12 a_13 a_14 a_15 a_16 a_17 a_18 i_10 i_11 i_12 i_13 i_14 i_15 a_19 i_16 a_20 ry21_0_9_118 (mm_wk q144 (by decide))) (cwV 1 hts (mm_gV mm_w483 mm_w484 mm_w485 mm_w5 mm_w486) rfl rfl rfl hd_X12_fails ⟨by rw [hRf]; exact Nat.le_of_ble_eq_true rfl, by rw [hRl]; exact Nat.le_of_ble_eq_true rfl⟩) (mm_preV hK hZ hS hA hP hD [0] rfl rfl 0 rfl rfl rfl) rfl rfl hl.1 rfl (lv_room (Nat.le_of_ble_eq_true rfl)) dX12_textLine_95 ⟨by rw [hRc]; exact Nat.le_of_ble_eq_true rfl, by rw [hRs]; exact Nat.le_of_ble_eq_true rfl⟩) hP hD hS hA (fun u : Int32 × Int32 => [(a_0, .inr (12, [.int i_0, .ref a_1, .ref a_2, .ref a_3, .ref a_4, .ref a_5, .int i_1, .int y21_0_7_116, .int y21_0_8_117, .int y21_0_9_118, .int y21_0_10_119, .long y21_0_11_120, .int u.1, .int u.2, .int i_8, .int i_9, .ref a_6, .ref a_7, .ref a_8, .ref a_9, .ref a_10, .ref a_11, .ref a_12, .ref a_13, .ref a_14, .ref a_15, .ref a_16, .ref a_17, .ref a_18, .int i_10, .int i_11, .int i_12, .int i_13, .int i_14, .int i_15, .ref a_19, .int i_16, .ref a_20])), (a_5, .inl (cy 0, 600, .inl f_0)), (a_7, .inl (cy 1, 30, .inl (mm_g [i_17, i_18, i_19, i_20, i_21, i_22, i_23, i_24, i_25, i_26, i_27, i_28, i_29, i_30, i_31, i_32, i_33, i_34, i_35, i_36, i_37, i_38, i_39, i_40, i_41, i_42, i_43, i_44, i_45, i_46]))), (a_11, .inl (cy 1, 30, .inl g153)), (a_12, .inl (cy 1, 240, .inl g149))]) [0] [1, 2, 3, 4] (n := 5) (fun _ => rfl) (by decide +kernel) (by decide +kernel) rfl (fun _ => rfl) (wr := [(a_5, .inl (cy 0, 600, .inl f_0)), (a_7, .inl (cy 1, 30, .inl (mm_g [i_17, i_18, i_19, i_20, i_21, i_22, i_23, i_24, i_25, i_26, i_27, i_28, i_29, i_30, i_31, i_32, i_33, i_34, i_35, i_36, i_37, i_38, i_39, i_40, i_41, i_42, i_43, i_44, i_45, i_46]))), (a_11, .inl (cy 1, 30, .inl g153)), (a_12, .inl (cy 1, 240, .inl g149))]) rfl (fun _ => rfl) (fun _ => rfl) ?_
              clear hP hD hS
              clear H locs
              intro u
              obtain ⟨n192, n193⟩ := u
              intro H locs hw (hP : va_P G vwCl [(a_0, .inr (12, [.int i_0, .ref a_1, .ref a_2, .ref a_3, .ref a_4, .ref a_5, .int i_1, .int y21_0_7_116, .int y21_0_8_117, .int y21_0_9_118, .int y21_0_10_119, .long y21_0_11_120, .int n192, .int n193, .int i_8, .int i_9, .ref a_6, .ref a_7, .ref a_8, .ref a_9, .ref a_10, .ref a_11, .ref a_12, .ref a_13, .ref a_14, .ref a_15, .ref a_16, .ref a_17, .ref a_18, .int i_10, .int i_11, .int i_12, .int i_13, .int i_14, .int i_15, .ref a_19, .int i_16, .ref a_20])), (a_5, .inl (cy 0, 600, .inl f_0)), (a_7, .inl (cy 1, 30, .inl (mm_g [i_17, i_18, i_19, i_20, i_21, i_22, i_23, i_24, i_25, i_26, i_27, i_28, i_29, i_30, i_31, i_32, i_33, i_34, i_35, i_36, i_37, i_38, i_39, i_40, i_41, i_42, i_43, i_44, i_45, i_46]))), (a_11, .inl (cy 1, 30, .inl g153)), (a_12, .inl (cy 1, 240, .inl g149))] H) (hD : va_D A [(a_0, .inr (12, [.int i_0, .ref a_1, .ref a_2, .ref a_3, .ref a_4, .ref a_5, .int i_1, .int y21_0_7_116, .int y21_0_8_117, .int y21_0_9_118, .int y21_0_10_119, .long y21_0_11_120, .int n192, .int n193, .int i_8, .int i_9, .ref a_6, .ref a_7, .ref a_8, .ref a_9, .ref a_10, .ref a_11, .ref a_12, .ref a_13, .ref a_14, .ref a_15, .ref a_16, .ref a_17, .ref a_18, .int i_10, .int i_11, .int i_12, .int i_13, .int i_14, .int i_15, .ref a_19, .int i_16, .ref a_20])), (a_5, .inl (cy 0, 600, .inl f_0)), (a_7, .inl (cy 1, 30, .inl (mm_g [i_17, i_18, i_19, i_20, i_21, i_22, i_23, i_24, i_25, i_26, i_27, i_28, i_29, i_30, i_31, i_32, i_33, i_34, i_35, i_36, i_37, i_38, i_39, i_40, i_41, i_42, i_43, i_44, i_45, i_46]))), (a_11, .inl (cy 1, 30, .inl g153)), (a_12, .inl (cy 1, 240, .inl g149))]) hS
              have w194 := hw
              refine lv_aload_n hx hb dX12_textLine_98 rfl (lv_at hl 2 rfl) ?_
              refine mm_finir (va_runV (As := []) (rest := []) ⟨hx, hb, hml, hown, hts⟩ (M52_X12_wordHere l G cy H.size a_0 i_0 a_1 a_2 a_3 a_4 a_5 i_1 y21_0_7_116 y21_0_8_117 y21_0_9_118 y21_0_10_119 y21_0_11_120 n192 n193 i_8 i_9 a_6 a_7 a_8 a_9 a_10 a_11 a_12 a_13 a_14 a_15 a_16 a_17 a_18 i_10 i_11 i_12 i_13 i_14 i_15 a_19 i_16 a_20 i_17 i_18 i_19 i_20 i_21 i_22 i_23 i_24 i_25 i_26 i_27 i_28 i_29 i_30 i_31 i_32 i_33 i_34 i_35 i_36 i_37 i_38 i_39 i_40 i_41 i_42 i_43 i_44 i_45 i_46 ry21_0_7_116 (mm_wk q155 (by decide)) ry21_0_9_118 w194 h6 h7 h8 h9 h10 h11 h12 h13 h14 h15 h16 h17 h18 h19 h20 h21 h22 h23 h24 h25 h26 h27 h28 h29 h30 h31 h32 h33 (mm_wk h34 (by decide)) h35 w125 w126 w127) (cwV 0 hts (mm_gV mm_w532 mm_w533 mm_w534 mm_w5 mm_w535) rfl rfl rfl hd_X12_wordHere ⟨by rw [hRf]; exact Nat.le_of_ble_eq_true rfl, by rw [hRl]; exact Nat.le_of_ble_eq_true rfl⟩) (mm_preV hK hZ hS hA hP hD [0, 2] rfl rfl 0 rfl rfl rfl) rfl rfl hl.1 rfl (lv_room (Nat.le_of_ble_eq_true rfl)) dX12_textLine_99 ⟨by rw [hRc]; exact Nat.le_of_ble_eq_true rfl, by rw [hRs]; exact Nat.le_of_ble_eq_true rfl⟩) hP hD hS hA [0, 2] rfl (fun _ => rfl) ?_
              clear hP hD hS
              clear H locs
              intro v195 _u H locs hw hP hD hS
              obtain ⟨rfl, w196, w197⟩ := hw
              refine lv_istore_n (lv' := [(2, .int 0), (1, .int v2), (0, .ref a_0)]) hx hb dX12_textLine_102 rfl hl (by decide) rfl ?_
              clear hl
              clear ls
              intro ls hl
              refine lv_goto (tgt := 21) hx hb dX12_textLine_103 (by decide) ?_
              exact ih21 0 y21_0_7_116 y21_0_8_117 y21_0_9_118 y21_0_10_119 y21_0_11_120 n192 n193 g153 g149 (mm_wk mm_k0 (by decide)) ry21_0_7_116 (mm_wk q155 (by decide)) ry21_0_9_118 (mm_wk w194 (by decide)) rg153 rg149 w125 w126 w127 w128 (mm_b7_n w194 (by decide)) (mm_fr_u w130 eg153 rv2 (by decide)) (mm_fr_u w131 eg149 rv148 (by decide)) (mm_txl_s w132 eg153 eg149 ev146 tv152 (by have := tv148; have := tv145; omega) w133 rx21_2_115 q181 rv2 (by decide)) w196 (mm_tmM hm21 q144 ev146 eg153 tv152 q181 (by decide)) H locs hP hD hS ls (lv_sub hl [0, 1, 2] rfl)
        · refine lv_goto (tgt := 106) hx hb dX12_textLine_63 (by decide) ?_
          refine lv_aload_n hx hb dX12_textLine_106 rfl (lv_at hl 2 rfl) ?_
          refine lv_iconst (v := 4) hx hb dX12_textLine_107 (by decide) ?_
          refine lv_aload_n hx hb dX12_textLine_108 rfl (lv_at hl 2 rfl) ?_
          refine lv_iconst (v := 4) hx hb dX12_textLine_109 (by decide) ?_
          refine mm_finir (va_runV (As := [.int 4]) (rest := [.int 4, .ref a_0]) ⟨hx, hb, hml, hown, hts⟩ (M43_X12_hasRead l G cy H.size a_0 i_0 a_1 a_2 a_3 a_4 a_5 i_1 y21_0_7_116 y21_0_8_117 y21_0_9_118 y21_0_10_119 y21_0_11_120 y21_0_12_121 y21_0_13_122 i_8 i_9 a_6 a_7 a_8 a_9 a_10 a_11 a_12 a_13 a_14 a_15 a_16 a_17 a_18 i_10 i_11 i_12 i_13 i_14 i_15 a_19 i_16 a_20 i_17 i_18 i_19 i_20 i_21 i_22 i_23 i_24 i_25 i_26 i_27 i_28 i_29 i_30 i_31 i_32 i_33 i_34 i_35 i_36 i_37 i_38 i_39 i_40 i_41 i_42 i_43 i_44 i_45 i_46 h6 h7 h8 h9 h10 h11 h12 h13 h14 h15 h16 h17 h18 h19 h20 h21 h22 h23 h24 h25 h26 h27 h28 h29 h30 h31 h32 h33 (mm_wk h34 (by decide)) h35) (cwV 1 hts (mm_gV mm_w503 mm_w504 mm_w505 mm_w5 mm_w506) rfl rfl rfl hd_X12_hasRead ⟨by rw [hRf]; exact Nat.le_of_ble_eq_true rfl, by rw [hRl]; exact Nat.le_of_ble_eq_true rfl⟩) (mm_preV hK hZ hS hA hP hD [0, 2] rfl rfl 0 rfl rfl rfl) rfl rfl hl.1 rfl (lv_room (Nat.le_of_ble_eq_true rfl)) dX12_textLine_110 ⟨by rw [hRc]; exact Nat.le_of_ble_eq_true rfl, by rw [hRs]; exact Nat.le_of_ble_eq_true rfl⟩) hP hD hS hA [0, 2] rfl (fun _ => rfl) ?_
          clear hP hD hS
          clear H locs
          intro v198 _u H locs hw hP hD hS
          subst hw
          refine lv_iconst (v := 1) hx hb dX12_textLine_113 (by decide) ?_
          refine lv_iadd hx hb dX12_textLine_114 ?_
          refine lv_topi (fun v199 ev199 => ?_)
          have rv199 : mm_rg v199 2 6 := mm_add ev199 h34 mm_k1 (by decide) (by decide)
          have tv199 := mm_addEc ev199 h34 mm_k1 (by decide) (k := 1) (by decide)
          refine mm_finv (va_runV (As := [.int 4, .int v199]) (rest := []) ⟨hx, hb, hml, hown, hts⟩ (M70_X12_tells l G cy H.size a_0 v199 i_0 a_1 a_2 a_3 a_4 a_5 i_1 y21_0_7_116 y21_0_8_117 y21_0_9_118 y21_0_10_119 y21_0_11_120 y21_0_12_121 y21_0_13_122 i_8 i_9 a_6 a_7 a_8 a_9 a_10 a_11 a_12 a_13 a_14 a_15 a_16 a_17 a_18 i_10 i_11 i_12 i_13 i_14 i_15 a_19 i_16 a_20 i_17 i_18 i_19 i_20 i_21 i_22 i_23 i_24 i_25 i_26 i_27 i_28 i_29 i_30 i_31 i_32 i_33 i_34 i_35 i_36 i_37 i_38 i_39 i_40 i_41 i_42 i_43 i_44 i_45 i_46 rv199 h6 h7 h8 h9 h10 h11 h12 h13 h14 h15 h16 h17 h18 h19 h20 h21 h22 h23 h24 h25 h26 h27 h28 h29 h30 h31 h32 h33 (mm_wk h34 (by decide)) h35) (cwV 2 hts (mm_gV mm_w441 mm_w442 mm_w443 mm_w5 mm_w444) rfl rfl rfl hd_X12_tells ⟨by rw [hRf]; exact Nat.le_of_ble_eq_true rfl, by rw [hRl]; exact Nat.le_of_ble_eq_true rfl⟩) (mm_preV hK hZ hS hA hP hD [0, 2] rfl rfl 0 rfl rfl rfl) rfl rfl hl.1 rfl (lv_room (Nat.le_of_ble_eq_true rfl)) dX12_textLine_115 ⟨by rw [hRc]; exact Nat.le_of_ble_eq_true rfl, by rw [hRs]; exact Nat.le_of_ble_eq_true rfl⟩) hP hD hS hA (fun u : Unit => [(a_0, .inr (12, [.int i_0, .ref a_1, .ref a_2, .ref a_3, .ref a_4, .ref a_5, .int i_1, .int y21_0_7_116, .int y21_0_8_117, .int y21_0_9_118, .int y21_0_10_119, .long y21_0_11_120, .int y21_0_12_121, .int y21_0_13_122, .int i_8, .int i_9, .ref a_6, .ref a_7, .ref a_8, .ref a_9, .ref a_10, .ref a_11, .ref a_12, .ref a_13, .ref a_14, .ref a_15, .ref a_16, .ref a_17, .ref a_18, .int i_10, .int i_11, .int i_12, .int i_13, .int i_14, .int i_15, .ref a_19, .int i_16, .ref a_20])), (a_5, .inl (cy 0, 600, .inl f_0)), (a_7, .inl (cy 1, 30, .inl (mm_g [i_17, i_18, i_19, i_20, i_21, i_22, i_23, i_24, i_25, i_26, i_27, i_28, i_29, i_30, i_31, i_32, i_33, i_34, i_35, i_36, i_37, i_38, i_39, i_40, i_41, i_42, i_43, i_44, v199, i_46]))), (a_11, .inl (cy 1, 30, .inl g153)), (a_12, .inl (cy 1, 240, .inl g149))]) [0, 2] [1, 3, 4] (n := 5) (fun _ => rfl) (by decide +kernel) (by decide +kernel) rfl (fun _ => rfl) (wr := [(a_5, .inl (cy 0, 600, .inl f_0)), (a_11, .inl (cy 1, 30, .inl g153)), (a_12, .inl (cy 1, 240, .inl g149))]) rfl (fun _ => rfl) (fun _ => @rfl _ ([a_0, a_7] : List Nat)) ?_
          clear hP hD hS
          clear H locs
          intro _u H locs hw (hP : va_P G vwCl [(a_0, .inr (12, [.int i_0, .ref a_1, .ref a_2, .ref a_3, .ref a_4, .ref a_5, .int i_1, .int y21_0_7_116, .int y21_0_8_117, .int y21_0_9_118, .int y21_0_10_119, .long y21_0_11_120, .int y21_0_12_121, .int y21_0_13_122, .int i_8, .int i_9, .ref a_6, .ref a_7, .ref a_8, .ref a_9, .ref a_10, .ref a_11, .ref a_12, .ref a_13, .ref a_14, .ref a_15, .ref a_16, .ref a_17, .ref a_18, .int i_10, .int i_11, .int i_12, .int i_13, .int i_14, .int i_15, .ref a_19, .int i_16, .ref a_20])), (a_5, .inl (cy 0, 600, .inl f_0)), (a_7, .inl (cy 1, 30, .inl (mm_g [i_17, i_18, i_19, i_20, i_21, i_22, i_23, i_24, i_25, i_26, i_27, i_28, i_29, i_30, i_31, i_32, i_33, i_34, i_35, i_36, i_37, i_38, i_39, i_40, i_41, i_42, i_43, i_44, v199, i_46]))), (a_11, .inl (cy 1, 30, .inl g153)), (a_12, .inl (cy 1, 240, .inl g149))] H) (hD : va_D A [(a_0, .inr (12, [.int i_0, .ref a_1, .ref a_2, .ref a_3, .ref a_4, .ref a_5, .int i_1, .int y21_0_7_116, .int y21_0_8_117, .int y21_0_9_118, .int y21_0_10_119, .long y21_0_11_120, .int y21_0_12_121, .int y21_0_13_122, .int i_8, .int i_9, .ref a_6, .ref a_7, .ref a_8, .ref a_9, .ref a_10, .ref a_11, .ref a_12, .ref a_13, .ref a_14, .ref a_15, .ref a_16, .ref a_17, .ref a_18, .int i_10, .int i_11, .int i_12, .int i_13, .int i_14, .int i_15, .ref a_19, .int i_16, .ref a_20])), (a_5, .inl (cy 0, 600, .inl f_0)), (a_7, .inl (cy 1, 30, .inl (mm_g [i_17, i_18, i_19, i_20, i_21, i_22, i_23, i_24, i_25, i_26, i_27, i_28, i_29, i_30, i_31, i_32, i_33, i_34, i_35, i_36, i_37, i_38, i_39, i_40, i_41, i_42, i_43, i_44, v199, i_46]))), (a_11, .inl (cy 1, 30, .inl g153)), (a_12, .inl (cy 1, 240, .inl g149))]) hS
          have w200 : mm_txs g153 g149 0 i_19 i_21 := (mm_txs_fr h38 (mm_fr_u w130 eg153 rv2 (by decide)) (mm_fr_u w131 eg149 rv148 (by decide)) (by decide))
          have w201 : mm_txs g153 g149 1 i_25 i_27 := (mm_txs_fr h39 (mm_fr_u w130 eg153 rv2 (by decide)) (mm_fr_u w131 eg149 rv148 (by decide)) (by decide))
          have w202 : mm_txs g153 g149 2 i_31 i_33 := (mm_txs_fr h40 (mm_fr_u w130 eg153 rv2 (by decide)) (mm_fr_u w131 eg149 rv148 (by decide)) (by decide))
          have w203 : mm_txs g153 g149 3 i_37 i_39 := (mm_txs_fr h41 (mm_fr_u w130 eg153 rv2 (by decide)) (mm_fr_u w131 eg149 rv148 (by decide)) (by decide))
          have w204 : mm_txs g153 g149 4 i_43 v199 := (mm_txs_t h45 (mm_txl_s w132 eg153 eg149 ev146 tv152 (by have := tv148; have := tv145; omega) w133 rx21_2_115 q147 rv2 (by decide)) (by have := tv2; omega) (by have := tv199; omega) h34 (by decide))
          have w205 : mm_fr f_1 g153 24 := (mm_fr_u w130 eg153 rv2 (by decide))
          have w206 : mm_fr f_2 g149 192 := (mm_fr_u w131 eg149 rv148 (by decide))
          subst hAe
          rw [hQ]
          exact W.vret hx hb hr (fun t ht hW => ⟨⟨(y21_0_7_116, y21_0_8_117, y21_0_9_118, y21_0_10_119, y21_0_11_120, y21_0_12_121, y21_0_13_122, v199, g153, g149), rfl, ⟨ry21_0_7_116, ry21_0_8_117, ry21_0_9_118, (mm_wk q144 (by decide)), rv199, rg153, rg149, w200, w201, w202, w203, w125, w126, w127, w128, w204, w205, w206⟩, by rw [ht]; exact hP, hK.warm hW, hD⟩, hS.F ht⟩) hS.2.2 dX12_textLine_118
  exact L21_133 _ v11 n4 n5 n6 n7 n8 n9 n10 g3 f_2 w21 w12 w13 w14 w15 rg3 h37 w16 w17 w18 w19 (mm_b7_u eg3 mm_k0 (by decide)) (mm_fr_u (mm_fr_r _ _) eg3 rv2 (by decide)) (mm_fr_r _ _) (mm_txl_0 eg3) w22 (Nat.lt_succ_self _) H locs hP hD hS ls (lv_sub hl [0, 1, 2] rfl)

set_option maxHeartbeats 4000000 in
set_option maxRecDepth 100000 in
theorem M72_X12_isRoom (l : Launch) (G : va_G) (cy : Nat → ClassId) (sz : Nat) (a_0 : Nat) (i_0 : Int32) (i_1 : Int32) (a_1 : Nat) (a_2 : Nat) (a_3 : Nat) (a_4 : Nat) (a_5 : Nat) (i_2 : Int32) (i_3 : Int32) (i_4 : Int32) (i_5 : Int32) (i_6 : Int32) (j_0 : Int64) (i_7 : Int32) (i_8 : Int32) (i_9 : Int32) (i_10 : Int32) (a_6 : Nat) (a_7 : Nat) (a_8 : Nat) (a_9 : Nat) (a_10 : Nat) (a_11 : Nat) (a_12 : Nat) (a_13 : Nat) (a_14 : Nat) (a_15 : Nat) (a_16 : Nat) (a_17 : Nat) (a_18 : Nat) (i_11 : Int32) (i_12 : Int32) (i_13 : Int32) (i_14 : Int32) (i_15 : Int32) (i_16 : Int32) (a_19 : Nat) (i_17 : Int32) (a_20 : Nat) (f_0 : Nat → Int32) (h0 : mm_rg i_0 0 9) (h1 : mm_rg i_2 0 600) (h2 : mm_rg i_3 0 600) (h3 : mm_rg i_4 0 4) (h4 : mm_rg i_5 0 600) (h5 : mm_rg i_7 0 3) (h6 : mm_ar f_0 (-128) 127) (h7 : (i_5 : Int32).toInt ≤ (i_3 : Int32).toInt) (h8 : (i_3 : Int32).toInt ≤ (i_2 : Int32).toInt) (h9 : mm_tk i_4 i_5 i_3)  : mm_CI l yX12_isRoom (mm_ws yX12_isRoom cX12_isRoom 4 (some .boolean)) ({ frames := 2, cells := 0, slots := 0, locals := 44 } : Room) G cy sz [(a_0, .inr (12, [.int i_1, .ref a_1, .ref a_2, .ref a_3, .ref a_4, .ref a_5, .int i_2, .int i_3, .int i_4, .int i_5, .int i_6, .long j_0, .int i_7, .int i_8, .int i_9, .int i_10, .ref a_6, .ref a_7, .ref a_8, .ref a_9, .ref a_10, .ref a_11, .ref a_12, .ref a_13, .ref a_14, .ref a_15, .ref a_16, .ref a_17, .ref a_18, .int i_11, .int i_12, .int i_13, .int i_14, .int i_15, .int i_16, .ref a_19, .int i_17, .ref a_20])), (a_5, .inl (cy 0, 600, .inl f_0))] [.ref a_0, .int 1, .int i_0, .int 9] (fun u : Int32 × Int32 × Int32 × Int32 × Int64 × Int32 × Int32 => [(a_0, .inr (12, [.int i_1, .ref a_1, .ref a_2, .ref a_3, .ref a_4, .ref a_5, .int i_2, .int u.1, .int u.2.1, .int u.2.2.1, .int u.2.2.2.1, .long u.2.2.2.2.1, .int u.2.2.2.2.2.1, .int u.2.2.2.2.2.2, .int i_9, .int i_10, .ref a_6, .ref a_7, .ref a_8, .ref a_9, .ref a_10, .ref a_11, .ref a_12, .ref a_13, .ref a_14, .ref a_15, .ref a_16, .ref a_17, .ref a_18, .int i_11, .int i_12, .int i_13, .int i_14, .int i_15, .int i_16, .ref a_19, .int i_17, .ref a_20])), (a_5, .inl (cy 0, 600, .inl f_0))]) (fun (r : Int32) (u : Int32 × Int32 × Int32 × Int32 × Int64 × Int32 × Int32) => mm_rg u.1 0 600 ∧ mm_rg u.2.1 0 4 ∧ mm_rg u.2.2.1 0 600 ∧ mm_rg u.2.2.2.2.2.1 0 3 ∧ (u.2.2.1 : Int32).toInt ≤ (u.1 : Int32).toInt ∧ (u.1 : Int32).toInt ≤ (i_2 : Int32).toInt ∧ mm_tk u.2.1 u.2.2.1 u.1 ∧ (i_5 : Int32).toInt ≤ (u.2.2.1 : Int32).toInt ∧ ((0 = r ∧ mm_rg i_0 0 9) ∨ (1 = r ∧ mm_rg i_0 0 8))) 0 0 := by
  refine mm_begin (lv := [(0, .ref a_0), (1, .int 1), (2, .int i_0), (3, .int 9)]) (by decide) (Nat.le_of_ble_eq_true rfl) rfl ?_
  intro p e s m below meth c A ls R args Q H locs hRe hQ hAe hx hb hr hlocks hml hown hnm hts hsz hA hS hP hK hD hZ hl
  have hRf : R.frames = 2 := by rw [hRe]
  have hRl : R.locals = 44 := by rw [hRe]
  have hRc : R.cells = 0 := by rw [hRe]
  have hRs : R.slots = 0 := by rw [hRe]
  refine lv_iload_n hx hb dX12_isRoom_0 rfl (lv_at hl 1 rfl) ?_
  refine lv_if_eq (tgt := 14) hx hb dX12_isRoom_1 (by decide) (fun c1 => ?_) (fun c1 => ?_)
  · exact mm_eqN c1.symm mm_k0 mm_k1 (by decide)
  · refine lv_iload_n hx hb dX12_isRoom_4 rfl (lv_at hl 2 rfl) ?_
    refine lv_iload_n hx hb dX12_isRoom_5 rfl (lv_at hl 3 rfl) ?_
    refine lv_icmp_ne (tgt := 14) hx hb dX12_isRoom_6 (by decide) (fun c2 => ?_) (fun c2 => ?_)
    · have q3 := mm_neH (hi := 8) (mm_ne c2) h0 mm_k9 (by decide) (by decide)
      refine lv_iload_n hx hb dX12_isRoom_14 rfl (lv_at hl 1 rfl) ?_
      refine lv_if_eq (tgt := 29) hx hb dX12_isRoom_15 (by decide) (fun c4 => ?_) (fun c4 => ?_)
      · exact mm_eqN c4.symm mm_k0 mm_k1 (by decide)
      · refine lv_aload_n hx hb dX12_isRoom_18 rfl (lv_at hl 0 rfl) ?_
        refine va_get (D := G) (ci := 12) (v := .int i_7) (C := RX12) (T := TX12) (N := 38) hx hb hts (mm_i inlX12) hown hK.1 hP 0 rfl rfl 12 (by decide) (mm_h hts mm_w436) (fun _ h9 => h9) rfl dX12_isRoom_19 ?_
        refine lv_if_ne (tgt := 29) hx hb dX12_isRoom_22 (by decide) (fun c5 => ?_) (fun c5 => ?_)
        · have q6 := mm_neL (lo := 1) (mm_ne c5) h5 mm_k0 (by decide) (by decide)
          refine lv_iload_n hx hb dX12_isRoom_29 rfl (lv_at hl 1 rfl) ?_
          refine lv_if_eq (tgt := 44) hx hb dX12_isRoom_30 (by decide) (fun c7 => ?_) (fun c7 => ?_)
          · exact mm_eqN c7.symm mm_k0 mm_k1 (by decide)
          · refine lv_aload_n hx hb dX12_isRoom_33 rfl (lv_at hl 0 rfl) ?_
            refine va_get (D := G) (ci := 12) (v := .int i_7) (C := RX12) (T := TX12) (N := 38) hx hb hts (mm_i inlX12) hown hK.1 hP 0 rfl rfl 12 (by decide) (mm_h hts mm_w436) (fun _ h9 => h9) rfl dX12_isRoom_34 ?_
            refine lv_if_ne (tgt := 44) hx hb dX12_isRoom_37 (by decide) (fun c8 => ?_) (fun c8 => ?_)
            · refine lv_iconst (v := 0) hx hb dX12_isRoom_44 (by decide) ?_
              have w9 : (i_5 : Int32).toInt ≤ (i_5 : Int32).toInt := (Int.le_refl _)
              subst hAe
              rw [hQ]
              exact W.zret (v := 0) hx hb hr rfl (fun t ht hW => ⟨⟨0, (i_3, i_4, i_5, i_6, j_0, i_7, i_8), rfl, ⟨h2, h3, h4, (mm_wk q6 (by decide)), h7, h8, h9, w9, (Or.inl ⟨rfl, (mm_wk q3 (by decide))⟩)⟩, by rw [ht]; exact hP, hK.warm hW, hD⟩, hS.F ht⟩) hS.2.2 dX12_isRoom_45
            · exact mm_eqN c8.symm mm_k0 q6 (by decide)
        · have q10 := mm_eqI (lo := 0) (hi := 0) c5 h5 mm_k0 (by decide)
          refine lv_aload_n hx hb dX12_isRoom_25 rfl (lv_at hl 0 rfl) ?_
          refine mm_finv (va_runV (As := []) (rest := []) ⟨hx, hb, hml, hown, hts⟩ (M22_X12_next l G cy H.size a_0 i_1 a_1 a_2 a_3 a_4 a_5 i_2 i_3 i_4 i_5 i_6 j_0 i_7 i_8 i_9 i_10 a_6 a_7 a_8 a_9 a_10 a_11 a_12 a_13 a_14 a_15 a_16 a_17 a_18 i_11 i_12 i_13 i_14 i_15 i_16 a_19 i_17 a_20 f_0 h1 h2 h3 h4 h6 h8) (cwV 0 hts (mm_gV mm_w451 mm_w452 mm_w453 mm_w5 mm_w454) rfl rfl rfl hd_X12_next ⟨by rw [hRf]; exact Nat.le_of_ble_eq_true rfl, by rw [hRl]; exact Nat.le_of_ble_eq_true rfl⟩) (mm_preV hK hZ hS hA hP hD [0, 1] rfl rfl 0 rfl rfl rfl) rfl rfl hl.1 rfl (lv_room (Nat.le_of_ble_eq_true rfl)) dX12_isRoom_26 ⟨by rw [hRc]; exact Nat.le_of_ble_eq_true rfl, by rw [hRs]; exact Nat.le_of_ble_eq_true rfl⟩) hP hD hS hA (fun u : Int32 × Int32 × Int32 × Int32 × Int64 => [(a_0, .inr (12, [.int i_1, .ref a_1, .ref a_2, .ref a_3, .ref a_4, .ref a_5, .int i_2, .int u.1, .int u.2.1, .int u.2.2.1, .int u.2.2.2.1, .long u.2.2.2.2, .int i_7, .int i_8, .int i_9, .int i_10, .ref a_6, .ref a_7, .ref a_8, .ref a_9, .ref a_10, .ref a_11, .ref a_12, .ref a_13, .ref a_14, .ref a_15, .ref a_16, .ref a_17, .ref a_18, .int i_11, .int i_12, .int i_13, .int i_14, .int i_15, .int i_16, .ref a_19, .int i_17, .ref a_20])), (a_5, .inl (cy 0, 600, .inl f_0))]) [0, 1] [] (n := 2) (fun _ => rfl) (by decide +kernel) (by decide +kernel) rfl (fun _ => rfl) (wr := []) rfl (fun _ => rfl) (fun _ => rfl) ?_
          clear hP hD hS
          clear H locs
          intro u
          obtain ⟨n11, n12, n13, n14, n15⟩ := u
          intro H locs hw (hP : va_P G vwCl [(a_0, .inr (12, [.int i_1, .ref a_1, .ref a_2, .ref a_3, .ref a_4, .ref a_5, .int i_2, .int n11, .int n12, .int n13, .int n14, .long n15, .int i_7, .int i_8, .int i_9, .int i_10, .ref a_6, .ref a_7, .ref a_8, .ref a_9, .ref a_10, .ref a_11, .ref a_12, .ref a_13, .ref a_14, .ref a_15, .ref a_16, .ref a_17, .ref a_18, .int i_11, .int i_12, .int i_13, .int i_14, .int i_15, .int i_16, .ref a_19, .int i_17, .ref a_20])), (a_5, .inl (cy 0, 600, .inl f_0))] H) (hD : va_D A [(a_0, .inr (12, [.int i_1, .ref a_1, .ref a_2, .ref a_3, .ref a_4, .ref a_5, .int i_2, .int n11, .int n12, .int n13, .int n14, .long n15, .int i_7, .int i_8, .int i_9, .int i_10, .ref a_6, .ref a_7, .ref a_8, .ref a_9, .ref a_10, .ref a_11, .ref a_12, .ref a_13, .ref a_14, .ref a_15, .ref a_16, .ref a_17, .ref a_18, .int i_11, .int i_12, .int i_13, .int i_14, .int i_15, .int i_16, .ref a_19, .int i_17, .ref a_20])), (a_5, .inl (cy 0, 600, .inl f_0))]) hS
          obtain ⟨w16, w17, w18, w19, w20, w21, w22⟩ := hw
          replace w19 : (n13 : Int32).toInt ≤ (n11 : Int32).toInt := w19
          replace w20 : (n11 : Int32).toInt ≤ (i_2 : Int32).toInt := w20
          replace w21 : mm_tk n12 n13 n11 := w21
          replace w22 : (i_3 : Int32).toInt ≤ (n13 : Int32).toInt := w22
          refine lv_iload_n hx hb dX12_isRoom_29 rfl (lv_at hl 1 rfl) ?_
          refine lv_if_eq (tgt := 44) hx hb dX12_isRoom_30 (by decide) (fun c23 => ?_) (fun c23 => ?_)
          · exact mm_eqN c23.symm mm_k0 mm_k1 (by decide)
          · refine lv_aload_n hx hb dX12_isRoom_33 rfl (lv_at hl 0 rfl) ?_
            refine va_get (D := G) (ci := 12) (v := .int i_7) (C := RX12) (T := TX12) (N := 38) hx hb hts (mm_i inlX12) hown hK.1 hP 0 rfl rfl 12 (by decide) (mm_h hts mm_w436) (fun _ h9 => h9) rfl dX12_isRoom_34 ?_
            refine lv_if_ne (tgt := 44) hx hb dX12_isRoom_37 (by decide) (fun c24 => ?_) (fun c24 => ?_)
            · have q25 := mm_neL (lo := 1) (mm_ne c24) q10 mm_k0 (by decide) (by decide)
              exact mm_no q25 (by decide)
            · refine lv_iconst (v := 1) hx hb dX12_isRoom_40 (by decide) ?_
              refine lv_goto (tgt := 45) hx hb dX12_isRoom_41 (by decide) ?_
              have w26 : (i_5 : Int32).toInt ≤ (n13 : Int32).toInt := (by have := h7; have := w22; omega)
              subst hAe
              rw [hQ]
              exact W.zret (v := 1) hx hb hr rfl (fun t ht hW => ⟨⟨1, (n11, n12, n13, n14, n15, i_7, i_8), rfl, ⟨w16, w17, w18, (mm_wk q10 (by decide)), w19, w20, w21, w26, (Or.inr ⟨rfl, q3⟩)⟩, by rw [ht]; exact hP, hK.warm hW, hD⟩, hS.F ht⟩) hS.2.2 dX12_isRoom_45
    · have q27 := mm_eqI (lo := 9) (hi := 9) c2 h0 mm_k9 (by decide)
      refine lv_aload_n hx hb dX12_isRoom_9 rfl (lv_at hl 0 rfl) ?_
      refine lv_iconst (v := 3) hx hb dX12_isRoom_10 (by decide) ?_
      refine mm_finv (va_runV (As := [.int 3]) (rest := []) ⟨hx, hb, hml, hown, hts⟩ (M45_X12_fails l G cy H.size a_0 i_1 a_1 a_2 a_3 a_4 a_5 i_2 i_3 i_4 i_5 i_6 j_0 i_7 i_8 i_9 i_10 a_6 a_7 a_8 a_9 a_10 a_11 a_12 a_13 a_14 a_15 a_16 a_17 a_18 i_11 i_12 i_13 i_14 i_15 i_16 a_19 i_17 a_20 h4 h5) (cwV 1 hts (mm_gV mm_w483 mm_w484 mm_w485 mm_w5 mm_w486) rfl rfl rfl hd_X12_fails ⟨by rw [hRf]; exact Nat.le_of_ble_eq_true rfl, by rw [hRl]; exact Nat.le_of_ble_eq_true rfl⟩) (mm_preV hK hZ hS hA hP hD [0] rfl rfl 0 rfl rfl rfl) rfl rfl hl.1 rfl (lv_room (Nat.le_of_ble_eq_true rfl)) dX12_isRoom_11 ⟨by rw [hRc]; exact Nat.le_of_ble_eq_true rfl, by rw [hRs]; exact Nat.le_of_ble_eq_true rfl⟩) hP hD hS hA (fun u : Int32 × Int32 => [(a_0, .inr (12, [.int i_1, .ref a_1, .ref a_2, .ref a_3, .ref a_4, .ref a_5, .int i_2, .int i_3, .int i_4, .int i_5, .int i_6, .long j_0, .int u.1, .int u.2, .int i_9, .int i_10, .ref a_6, .ref a_7, .ref a_8, .ref a_9, .ref a_10, .ref a_11, .ref a_12, .ref a_13, .ref a_14, .ref a_15, .ref a_16, .ref a_17, .ref a_18, .int i_11, .int i_12, .int i_13, .int i_14, .int i_15, .int i_16, .ref a_19, .int i_17, .ref a_20])), (a_5, .inl (cy 0, 600, .inl f_0))]) [0] [1] (n := 2) (fun _ => rfl) (by decide +kernel) (by decide +kernel) rfl (fun _ => rfl) (wr := [(a_5, .inl (cy 0, 600, .inl f_0))]) rfl (fun _ => rfl) (fun _ => rfl) ?_
      clear hP hD hS
      clear H locs
      intro u
      obtain ⟨n28, n29⟩ := u
      intro H locs hw (hP : va_P G vwCl [(a_0, .inr (12, [.int i_1, .ref a_1, .ref a_2, .ref a_3, .ref a_4, .ref a_5, .int i_2, .int i_3, .int i_4, .int i_5, .int i_6, .long j_0, .int n28, .int n29, .int i_9, .int i_10, .ref a_6, .ref a_7, .ref a_8, .ref a_9, .ref a_10, .ref a_11, .ref a_12, .ref a_13, .ref a_14, .ref a_15, .ref a_16, .ref a_17, .ref a_18, .int i_11, .int i_12, .int i_13, .int i_14, .int i_15, .int i_16, .ref a_19, .int i_17, .ref a_20])), (a_5, .inl (cy 0, 600, .inl f_0))] H) (hD : va_D A [(a_0, .inr (12, [.int i_1, .ref a_1, .ref a_2, .ref a_3, .ref a_4, .ref a_5, .int i_2, .int i_3, .int i_4, .int i_5, .int i_6, .long j_0, .int n28, .int n29, .int i_9, .int i_10, .ref a_6, .ref a_7, .ref a_8, .ref a_9, .ref a_10, .ref a_11, .ref a_12, .ref a_13, .ref a_14, .ref a_15, .ref a_16, .ref a_17, .ref a_18, .int i_11, .int i_12, .int i_13, .int i_14, .int i_15, .int i_16, .ref a_19, .int i_17, .ref a_20])), (a_5, .inl (cy 0, 600, .inl f_0))]) hS
      have w30 := hw
      refine lv_iload_n hx hb dX12_isRoom_14 rfl (lv_at hl 1 rfl) ?_
      refine lv_if_eq (tgt := 29) hx hb dX12_isRoom_15 (by decide) (fun c31 => ?_) (fun c31 => ?_)
      · exact mm_eqN c31.symm mm_k0 mm_k1 (by decide)
      · refine lv_aload_n hx hb dX12_isRoom_18 rfl (lv_at hl 0 rfl) ?_
        refine va_get (D := G) (ci := 12) (v := .int n28) (C := RX12) (T := TX12) (N := 38) hx hb hts (mm_i inlX12) hown hK.1 hP 0 rfl rfl 12 (by decide) (mm_h hts mm_w436) (fun _ h9 => h9) rfl dX12_isRoom_19 ?_
        refine lv_if_ne (tgt := 29) hx hb dX12_isRoom_22 (by decide) (fun c32 => ?_) (fun c32 => ?_)
        · refine lv_iload_n hx hb dX12_isRoom_29 rfl (lv_at hl 1 rfl) ?_
          refine lv_if_eq (tgt := 44) hx hb dX12_isRoom_30 (by decide) (fun c33 => ?_) (fun c33 => ?_)
          · exact mm_eqN c33.symm mm_k0 mm_k1 (by decide)
          · refine lv_aload_n hx hb dX12_isRoom_33 rfl (lv_at hl 0 rfl) ?_
            refine va_get (D := G) (ci := 12) (v := .int n28) (C := RX12) (T := TX12) (N := 38) hx hb hts (mm_i inlX12) hown hK.1 hP 0 rfl rfl 12 (by decide) (mm_h hts mm_w436) (fun _ h9 => h9) rfl dX12_isRoom_34 ?_
            refine lv_if_ne (tgt := 44) hx hb dX12_isRoom_37 (by decide) (fun c34 => ?_) (fun c34 => ?_)
            · refine lv_iconst (v := 0) hx hb dX12_isRoom_44 (by decide) ?_
              have w35 : (i_5 : Int32).toInt ≤ (i_5 : Int32).toInt := (Int.le_refl _)
              subst hAe
              rw [hQ]
              exact W.zret (v := 0) hx hb hr rfl (fun t ht hW => ⟨⟨0, (i_3, i_4, i_5, i_6, j_0, n28, n29), rfl, ⟨h2, h3, h4, (mm_wk w30 (by decide)), h7, h8, h9, w35, (Or.inl ⟨rfl, (mm_wk q27 (by decide))⟩)⟩, by rw [ht]; exact hP, hK.warm hW, hD⟩, hS.F ht⟩) hS.2.2 dX12_isRoom_45
            · exact mm_eqN c34.symm mm_k0 w30 (by decide)
        · exact mm_eqN c32.symm mm_k0 w30 (by decide)

set_option maxHeartbeats 4000000 in
set_option maxRecDepth 100000 in
theorem M73_X12_isRoom (l : Launch) (G : va_G) (cy : Nat → ClassId) (sz : Nat) (a_0 : Nat) (i_0 : Int32) (h0 : mm_rg i_0 0 0)  : mm_CI l yX12_isRoom (mm_ws yX12_isRoom cX12_isRoom 4 (some .boolean)) ({ frames := 0, cells := 0, slots := 0, locals := 0 } : Room) G cy sz [] [.ref a_0, .int 0, .int i_0, .int 6] (fun u : Unit => []) (fun (r : Int32) (u : Unit) => 0 = r) 0 0 := by
  refine mm_begin (lv := [(0, .ref a_0), (1, .int 0), (2, .int i_0), (3, .int 6)]) (by decide) (Nat.le_of_ble_eq_true rfl) rfl ?_
  intro p e s m below meth c A ls R args Q H locs hRe hQ hAe hx hb hr hlocks hml hown hnm hts hsz hA hS hP hK hD hZ hl
  have hRf : R.frames = 0 := by rw [hRe]
  have hRl : R.locals = 0 := by rw [hRe]
  have hRc : R.cells = 0 := by rw [hRe]
  have hRs : R.slots = 0 := by rw [hRe]
  refine lv_iload_n hx hb dX12_isRoom_0 rfl (lv_at hl 1 rfl) ?_
  refine lv_if_eq (tgt := 14) hx hb dX12_isRoom_1 (by decide) (fun c1 => ?_) (fun c1 => ?_)
  · refine lv_iload_n hx hb dX12_isRoom_14 rfl (lv_at hl 1 rfl) ?_
    refine lv_if_eq (tgt := 29) hx hb dX12_isRoom_15 (by decide) (fun c2 => ?_) (fun c2 => ?_)
    · refine lv_iload_n hx hb dX12_isRoom_29 rfl (lv_at hl 1 rfl) ?_
      refine lv_if_eq (tgt := 44) hx hb dX12_isRoom_30 (by decide) (fun c3 => ?_) (fun c3 => ?_)
      · refine lv_iconst (v := 0) hx hb dX12_isRoom_44 (by decide) ?_
        subst hAe
        rw [hQ]
        exact W.zret (v := 0) hx hb hr rfl (fun t ht hW => ⟨⟨0, (), rfl, rfl, by rw [ht]; exact hP, hK.warm hW, hD⟩, hS.F ht⟩) hS.2.2 dX12_isRoom_45
      · exact absurd rfl (mm_ne c3)
    · exact absurd rfl (mm_ne c2)
  · exact absurd rfl (mm_ne c1)

set_option maxHeartbeats 4000000 in
set_option maxRecDepth 100000 in
theorem M74_X12_isRoom (l : Launch) (G : va_G) (cy : Nat → ClassId) (sz : Nat) (a_0 : Nat) (i_0 : Int32) (i_1 : Int32) (a_1 : Nat) (a_2 : Nat) (a_3 : Nat) (a_4 : Nat) (a_5 : Nat) (i_2 : Int32) (i_3 : Int32) (i_4 : Int32) (i_5 : Int32) (i_6 : Int32) (j_0 : Int64) (i_7 : Int32) (i_8 : Int32) (i_9 : Int32) (i_10 : Int32) (a_6 : Nat) (a_7 : Nat) (a_8 : Nat) (a_9 : Nat) (a_10 : Nat) (a_11 : Nat) (a_12 : Nat) (a_13 : Nat) (a_14 : Nat) (a_15 : Nat) (a_16 : Nat) (a_17 : Nat) (a_18 : Nat) (i_11 : Int32) (i_12 : Int32) (i_13 : Int32) (i_14 : Int32) (i_15 : Int32) (i_16 : Int32) (a_19 : Nat) (i_17 : Int32) (a_20 : Nat) (f_0 : Nat → Int32) (h0 : mm_rg i_0 0 0) (h1 : mm_rg i_2 0 600) (h2 : mm_rg i_3 0 600) (h3 : mm_rg i_4 0 4) (h4 : mm_rg i_5 0 600) (h5 : mm_rg i_7 0 3) (h6 : mm_ar f_0 (-128) 127) (h7 : (i_5 : Int32).toInt ≤ (i_3 : Int32).toInt) (h8 : (i_3 : Int32).toInt ≤ (i_2 : Int32).toInt) (h9 : mm_tk i_4 i_5 i_3)  : mm_CI l yX12_isRoom (mm_ws yX12_isRoom cX12_isRoom 4 (some .boolean)) ({ frames := 2, cells := 0, slots := 0, locals := 44 } : Room) G cy sz [(a_0, .inr (12, [.int i_1, .ref a_1, .ref a_2, .ref a_3, .ref a_4, .ref a_5, .int i_2, .int i_3, .int i_4, .int i_5, .int i_6, .long j_0, .int i_7, .int i_8, .int i_9, .int i_10, .ref a_6, .ref a_7, .ref a_8, .ref a_9, .ref a_10, .ref a_11, .ref a_12, .ref a_13, .ref a_14, .ref a_15, .ref a_16, .ref a_17, .ref a_18, .int i_11, .int i_12, .int i_13, .int i_14, .int i_15, .int i_16, .ref a_19, .int i_17, .ref a_20])), (a_5, .inl (cy 0, 600, .inl f_0))] [.ref a_0, .int 1, .int i_0, .int 6] (fun u : Int32 × Int32 × Int32 × Int32 × Int64 => [(a_0, .inr (12, [.int i_1, .ref a_1, .ref a_2, .ref a_3, .ref a_4, .ref a_5, .int i_2, .int u.1, .int u.2.1, .int u.2.2.1, .int u.2.2.2.1, .long u.2.2.2.2, .int i_7, .int i_8, .int i_9, .int i_10, .ref a_6, .ref a_7, .ref a_8, .ref a_9, .ref a_10, .ref a_11, .ref a_12, .ref a_13, .ref a_14, .ref a_15, .ref a_16, .ref a_17, .ref a_18, .int i_11, .int i_12, .int i_13, .int i_14, .int i_15, .int i_16, .ref a_19, .int i_17, .ref a_20])), (a_5, .inl (cy 0, 600, .inl f_0))]) (fun (r : Int32) (u : Int32 × Int32 × Int32 × Int32 × Int64) => mm_rg u.1 0 600 ∧ mm_rg u.2.1 0 4 ∧ mm_rg u.2.2.1 0 600 ∧ (u.2.2.1 : Int32).toInt ≤ (u.1 : Int32).toInt ∧ (u.1 : Int32).toInt ≤ (i_2 : Int32).toInt ∧ mm_tk u.2.1 u.2.2.1 u.1 ∧ (i_5 : Int32).toInt ≤ (u.2.2.1 : Int32).toInt ∧ ((0 = r) ∨ (1 = r))) 0 0 := by
  refine mm_begin (lv := [(0, .ref a_0), (1, .int 1), (2, .int i_0), (3, .int 6)]) (by decide) (Nat.le_of_ble_eq_true rfl) rfl ?_
  intro p e s m below meth c A ls R args Q H locs hRe hQ hAe hx hb hr hlocks hml hown hnm hts hsz hA hS hP hK hD hZ hl
  have hRf : R.frames = 2 := by rw [hRe]
  have hRl : R.locals = 44 := by rw [hRe]
  have hRc : R.cells = 0 := by rw [hRe]
  have hRs : R.slots = 0 := by rw [hRe]
  refine lv_iload_n hx hb dX12_isRoom_0 rfl (lv_at hl 1 rfl) ?_
  refine lv_if_eq (tgt := 14) hx hb dX12_isRoom_1 (by decide) (fun c1 => ?_) (fun c1 => ?_)
  · exact mm_eqN c1.symm mm_k0 mm_k1 (by decide)
  · refine lv_iload_n hx hb dX12_isRoom_4 rfl (lv_at hl 2 rfl) ?_
    refine lv_iload_n hx hb dX12_isRoom_5 rfl (lv_at hl 3 rfl) ?_
    refine lv_icmp_ne (tgt := 14) hx hb dX12_isRoom_6 (by decide) (fun c2 => ?_) (fun c2 => ?_)
    · refine lv_iload_n hx hb dX12_isRoom_14 rfl (lv_at hl 1 rfl) ?_
      refine lv_if_eq (tgt := 29) hx hb dX12_isRoom_15 (by decide) (fun c3 => ?_) (fun c3 => ?_)
      · exact mm_eqN c3.symm mm_k0 mm_k1 (by decide)
      · refine lv_aload_n hx hb dX12_isRoom_18 rfl (lv_at hl 0 rfl) ?_
        refine va_get (D := G) (ci := 12) (v := .int i_7) (C := RX12) (T := TX12) (N := 38) hx hb hts (mm_i inlX12) hown hK.1 hP 0 rfl rfl 12 (by decide) (mm_h hts mm_w436) (fun _ h9 => h9) rfl dX12_isRoom_19 ?_
        refine lv_if_ne (tgt := 29) hx hb dX12_isRoom_22 (by decide) (fun c4 => ?_) (fun c4 => ?_)
        · have q5 := mm_neL (lo := 1) (mm_ne c4) h5 mm_k0 (by decide) (by decide)
          refine lv_iload_n hx hb dX12_isRoom_29 rfl (lv_at hl 1 rfl) ?_
          refine lv_if_eq (tgt := 44) hx hb dX12_isRoom_30 (by decide) (fun c6 => ?_) (fun c6 => ?_)
          · exact mm_eqN c6.symm mm_k0 mm_k1 (by decide)
          · refine lv_aload_n hx hb dX12_isRoom_33 rfl (lv_at hl 0 rfl) ?_
            refine va_get (D := G) (ci := 12) (v := .int i_7) (C := RX12) (T := TX12) (N := 38) hx hb hts (mm_i inlX12) hown hK.1 hP 0 rfl rfl 12 (by decide) (mm_h hts mm_w436) (fun _ h9 => h9) rfl dX12_isRoom_34 ?_
            refine lv_if_ne (tgt := 44) hx hb dX12_isRoom_37 (by decide) (fun c7 => ?_) (fun c7 => ?_)
            · refine lv_iconst (v := 0) hx hb dX12_isRoom_44 (by decide) ?_
              have w8 : (i_5 : Int32).toInt ≤ (i_5 : Int32).toInt := (Int.le_refl _)
              subst hAe
              rw [hQ]
              exact W.zret (v := 0) hx hb hr rfl (fun t ht hW => ⟨⟨0, (i_3, i_4, i_5, i_6, j_0), rfl, ⟨h2, h3, h4, h7, h8, h9, w8, (Or.inl rfl)⟩, by rw [ht]; exact hP, hK.warm hW, hD⟩, hS.F ht⟩) hS.2.2 dX12_isRoom_45
            · exact mm_eqN c7.symm mm_k0 q5 (by decide)
        · have q9 := mm_eqI (lo := 0) (hi := 0) c4 h5 mm_k0 (by decide)
          refine lv_aload_n hx hb dX12_isRoom_25 rfl (lv_at hl 0 rfl) ?_
          refine mm_finv (va_runV (As := []) (rest := []) ⟨hx, hb, hml, hown, hts⟩ (M22_X12_next l G cy H.size a_0 i_1 a_1 a_2 a_3 a_4 a_5 i_2 i_3 i_4 i_5 i_6 j_0 i_7 i_8 i_9 i_10 a_6 a_7 a_8 a_9 a_10 a_11 a_12 a_13 a_14 a_15 a_16 a_17 a_18 i_11 i_12 i_13 i_14 i_15 i_16 a_19 i_17 a_20 f_0 h1 h2 h3 h4 h6 h8) (cwV 0 hts (mm_gV mm_w451 mm_w452 mm_w453 mm_w5 mm_w454) rfl rfl rfl hd_X12_next ⟨by rw [hRf]; exact Nat.le_of_ble_eq_true rfl, by rw [hRl]; exact Nat.le_of_ble_eq_true rfl⟩) (mm_preV hK hZ hS hA hP hD [0, 1] rfl rfl 0 rfl rfl rfl) rfl rfl hl.1 rfl (lv_room (Nat.le_of_ble_eq_true rfl)) dX12_isRoom_26 ⟨by rw [hRc]; exact Nat.le_of_ble_eq_true rfl, by rw [hRs]; exact Nat.le_of_ble_eq_true rfl⟩) hP hD hS hA (fun u : Int32 × Int32 × Int32 × Int32 × Int64 => [(a_0, .inr (12, [.int i_1, .ref a_1, .ref a_2, .ref a_3, .ref a_4, .ref a_5, .int i_2, .int u.1, .int u.2.1, .int u.2.2.1, .int u.2.2.2.1, .long u.2.2.2.2, .int i_7, .int i_8, .int i_9, .int i_10, .ref a_6, .ref a_7, .ref a_8, .ref a_9, .ref a_10, .ref a_11, .ref a_12, .ref a_13, .ref a_14, .ref a_15, .ref a_16, .ref a_17, .ref a_18, .int i_11, .int i_12, .int i_13, .int i_14, .int i_15, .int i_16, .ref a_19, .int i_17, .ref a_20])), (a_5, .inl (cy 0, 600, .inl f_0))]) [0, 1] [] (n := 2) (fun _ => rfl) (by decide +kernel) (by decide +kernel) rfl (fun _ => rfl) (wr := []) rfl (fun _ => rfl) (fun _ => rfl) ?_
          clear hP hD hS
          clear H locs
          intro u
          obtain ⟨n10, n11, n12, n13, n14⟩ := u
          intro H locs hw (hP : va_P G vwCl [(a_0, .inr (12, [.int i_1, .ref a_1, .ref a_2, .ref a_3, .ref a_4, .ref a_5, .int i_2, .int n10, .int n11, .int n12, .int n13, .long n14, .int i_7, .int i_8, .int i_9, .int i_10, .ref a_6, .ref a_7, .ref a_8, .ref a_9, .ref a_10, .ref a_11, .ref a_12, .ref a_13, .ref a_14, .ref a_15, .ref a_16, .ref a_17, .ref a_18, .int i_11, .int i_12, .int i_13, .int i_14, .int i_15, .int i_16, .ref a_19, .int i_17, .ref a_20])), (a_5, .inl (cy 0, 600, .inl f_0))] H) (hD : va_D A [(a_0, .inr (12, [.int i_1, .ref a_1, .ref a_2, .ref a_3, .ref a_4, .ref a_5, .int i_2, .int n10, .int n11, .int n12, .int n13, .long n14, .int i_7, .int i_8, .int i_9, .int i_10, .ref a_6, .ref a_7, .ref a_8, .ref a_9, .ref a_10, .ref a_11, .ref a_12, .ref a_13, .ref a_14, .ref a_15, .ref a_16, .ref a_17, .ref a_18, .int i_11, .int i_12, .int i_13, .int i_14, .int i_15, .int i_16, .ref a_19, .int i_17, .ref a_20])), (a_5, .inl (cy 0, 600, .inl f_0))]) hS
          obtain ⟨w15, w16, w17, w18, w19, w20, w21⟩ := hw
          replace w18 : (n12 : Int32).toInt ≤ (n10 : Int32).toInt := w18
          replace w19 : (n10 : Int32).toInt ≤ (i_2 : Int32).toInt := w19
          replace w20 : mm_tk n11 n12 n10 := w20
          replace w21 : (i_3 : Int32).toInt ≤ (n12 : Int32).toInt := w21
          refine lv_iload_n hx hb dX12_isRoom_29 rfl (lv_at hl 1 rfl) ?_
          refine lv_if_eq (tgt := 44) hx hb dX12_isRoom_30 (by decide) (fun c22 => ?_) (fun c22 => ?_)
          · exact mm_eqN c22.symm mm_k0 mm_k1 (by decide)
          · refine lv_aload_n hx hb dX12_isRoom_33 rfl (lv_at hl 0 rfl) ?_
            refine va_get (D := G) (ci := 12) (v := .int i_7) (C := RX12) (T := TX12) (N := 38) hx hb hts (mm_i inlX12) hown hK.1 hP 0 rfl rfl 12 (by decide) (mm_h hts mm_w436) (fun _ h9 => h9) rfl dX12_isRoom_34 ?_
            refine lv_if_ne (tgt := 44) hx hb dX12_isRoom_37 (by decide) (fun c23 => ?_) (fun c23 => ?_)
            · have q24 := mm_neL (lo := 1) (mm_ne c23) q9 mm_k0 (by decide) (by decide)
              exact mm_no q24 (by decide)
            · refine lv_iconst (v := 1) hx hb dX12_isRoom_40 (by decide) ?_
              refine lv_goto (tgt := 45) hx hb dX12_isRoom_41 (by decide) ?_
              have w25 : (i_5 : Int32).toInt ≤ (n12 : Int32).toInt := (by have := h7; have := w21; omega)
              subst hAe
              rw [hQ]
              exact W.zret (v := 1) hx hb hr rfl (fun t ht hW => ⟨⟨1, (n10, n11, n12, n13, n14), rfl, ⟨w15, w16, w17, w18, w19, w20, w25, (Or.inr rfl)⟩, by rw [ht]; exact hP, hK.warm hW, hD⟩, hS.F ht⟩) hS.2.2 dX12_isRoom_45
    · exact mm_eqN c2 h0 mm_k6 (by decide)

set_option maxHeartbeats 4000000 in
set_option maxRecDepth 100000 in
theorem M75_X12_tells (l : Launch) (G : va_G) (cy : Nat → ClassId) (sz : Nat) (a_0 : Nat) (i_0 : Int32) (i_1 : Int32) (a_1 : Nat) (a_2 : Nat) (a_3 : Nat) (a_4 : Nat) (a_5 : Nat) (i_2 : Int32) (i_3 : Int32) (i_4 : Int32) (i_5 : Int32) (i_6 : Int32) (j_0 : Int64) (i_7 : Int32) (i_8 : Int32) (i_9 : Int32) (i_10 : Int32) (a_6 : Nat) (a_7 : Nat) (a_8 : Nat) (a_9 : Nat) (a_10 : Nat) (a_11 : Nat) (a_12 : Nat) (a_13 : Nat) (a_14 : Nat) (a_15 : Nat) (a_16 : Nat) (a_17 : Nat) (a_18 : Nat) (i_11 : Int32) (i_12 : Int32) (i_13 : Int32) (i_14 : Int32) (i_15 : Int32) (i_16 : Int32) (a_19 : Nat) (i_17 : Int32) (a_20 : Nat) (i_18 : Int32) (i_19 : Int32) (i_20 : Int32) (i_21 : Int32) (i_22 : Int32) (i_23 : Int32) (i_24 : Int32) (i_25 : Int32) (i_26 : Int32) (i_27 : Int32) (i_28 : Int32) (i_29 : Int32) (i_30 : Int32) (i_31 : Int32) (i_32 : Int32) (i_33 : Int32) (i_34 : Int32) (i_35 : Int32) (i_36 : Int32) (i_37 : Int32) (i_38 : Int32) (i_39 : Int32) (i_40 : Int32) (i_41 : Int32) (i_42 : Int32) (i_43 : Int32) (i_44 : Int32) (i_45 : Int32) (i_46 : Int32) (i_47 : Int32) (h0 : mm_rg i_0 1 1) (h1 : mm_rg i_18 0 10) (h2 : mm_rg i_19 0 99) (h3 : mm_rg i_20 0 9) (h4 : mm_rg i_21 0 3) (h5 : mm_rg i_22 0 6) (h6 : mm_rg i_23 0 30) (h7 : mm_rg i_24 0 10) (h8 : mm_rg i_25 0 99) (h9 : mm_rg i_26 0 9) (h10 : mm_rg i_27 0 3) (h11 : mm_rg i_28 0 6) (h12 : mm_rg i_29 0 30) (h13 : mm_rg i_30 0 10) (h14 : mm_rg i_31 0 99) (h15 : mm_rg i_32 0 9) (h16 : mm_rg i_33 0 3) (h17 : mm_rg i_34 0 6) (h18 : mm_rg i_35 0 30) (h19 : mm_rg i_36 0 10) (h20 : mm_rg i_37 0 99) (h21 : mm_rg i_38 0 9) (h22 : mm_rg i_39 0 3) (h23 : mm_rg i_40 0 6) (h24 : mm_rg i_41 0 30) (h25 : mm_rg i_42 0 10) (h26 : mm_rg i_43 0 99) (h27 : mm_rg i_44 0 9) (h28 : mm_rg i_45 0 3) (h29 : mm_rg i_46 0 6) (h30 : mm_rg i_47 0 30)  : mm_CV l yX12_tells (mm_ws yX12_tells cX12_tells 3 (none)) ({ frames := 0, cells := 0, slots := 0, locals := 0 } : Room) G cy sz [(a_0, .inr (12, [.int i_1, .ref a_1, .ref a_2, .ref a_3, .ref a_4, .ref a_5, .int i_2, .int i_3, .int i_4, .int i_5, .int i_6, .long j_0, .int i_7, .int i_8, .int i_9, .int i_10, .ref a_6, .ref a_7, .ref a_8, .ref a_9, .ref a_10, .ref a_11, .ref a_12, .ref a_13, .ref a_14, .ref a_15, .ref a_16, .ref a_17, .ref a_18, .int i_11, .int i_12, .int i_13, .int i_14, .int i_15, .int i_16, .ref a_19, .int i_17, .ref a_20])), (a_7, .inl (cy 1, 30, .inl (mm_g [i_18, i_19, i_20, i_21, i_22, i_23, i_24, i_25, i_26, i_27, i_28, i_29, i_30, i_31, i_32, i_33, i_34, i_35, i_36, i_37, i_38, i_39, i_40, i_41, i_42, i_43, i_44, i_45, i_46, i_47])))] [.ref a_0, .int 4, .int i_0] (fun u : Unit => [(a_0, .inr (12, [.int i_1, .ref a_1, .ref a_2, .ref a_3, .ref a_4, .ref a_5, .int i_2, .int i_3, .int i_4, .int i_5, .int i_6, .long j_0, .int i_7, .int i_8, .int i_9, .int i_10, .ref a_6, .ref a_7, .ref a_8, .ref a_9, .ref a_10, .ref a_11, .ref a_12, .ref a_13, .ref a_14, .ref a_15, .ref a_16, .ref a_17, .ref a_18, .int i_11, .int i_12, .int i_13, .int i_14, .int i_15, .int i_16, .ref a_19, .int i_17, .ref a_20])), (a_7, .inl (cy 1, 30, .inl (mm_g [i_18, i_19, i_20, i_21, i_22, i_23, i_24, i_25, i_26, i_27, i_28, i_29, i_30, i_31, i_32, i_33, i_34, i_35, i_36, i_37, i_38, i_39, i_40, i_41, i_42, i_43, i_44, i_45, i_0, i_47])))]) (fun u : Unit => True) 0 0 := by
  refine mm_begin (lv := [(0, .ref a_0), (1, .int 4), (2, .int i_0)]) (by decide) (Nat.le_of_ble_eq_true rfl) rfl ?_
  intro p e s m below meth c A ls R args Q H locs hRe hQ hAe hx hb hr hlocks hml hown hnm hts hsz hA hS hP hK hD hZ hl
  have hRf : R.frames = 0 := by rw [hRe]
  have hRl : R.locals = 0 := by rw [hRe]
  have hRc : R.cells = 0 := by rw [hRe]
  have hRs : R.slots = 0 := by rw [hRe]
  refine lv_aload_n hx hb dX12_tells_0 rfl (lv_at hl 0 rfl) ?_
  refine va_get (D := G) (ci := 12) (v := .ref a_7) (C := RX12) (T := TX12) (N := 38) hx hb hts (mm_i inlX12) hown hK.1 hP 0 rfl rfl 17 (by decide) (mm_h hts mm_w149) (fun _ h9 => h9) rfl dX12_tells_1 ?_
  refine lv_bipush (v := 24) hx hb dX12_tells_4 (by decide) ?_
  refine lv_iload_n hx hb dX12_tells_6 rfl (lv_at hl 1 rfl) ?_
  refine lv_iadd hx hb dX12_tells_7 ?_
  refine lv_topi (fun v1 ev1 => ?_)
  obtain rfl : v1 = 28 := ev1.trans (by decide)
  refine lv_iload_n hx hb dX12_tells_8 rfl (lv_at hl 2 rfl) ?_
  refine va_iast hx hb hK.1 hP hD hS 1 1 rfl rfl (mm_in mm_k28 (by decide)) dX12_tells_9 ?_
  clear hP hD hS
  clear H locs
  rw [show upd (mm_g [i_18, i_19, i_20, i_21, i_22, i_23, i_24, i_25, i_26, i_27, i_28, i_29, i_30, i_31, i_32, i_33, i_34, i_35, i_36, i_37, i_38, i_39, i_40, i_41, i_42, i_43, i_44, i_45, i_46, i_47]) (28 : Int32).toNatClampNeg i_0 = (mm_g [i_18, i_19, i_20, i_21, i_22, i_23, i_24, i_25, i_26, i_27, i_28, i_29, i_30, i_31, i_32, i_33, i_34, i_35, i_36, i_37, i_38, i_39, i_40, i_41, i_42, i_43, i_44, i_45, i_0, i_47]) from mm_gs2 28 30 (by decide) rfl rfl rfl]
  intro H locs (hP : va_P G vwCl [(a_0, .inr (12, [.int i_1, .ref a_1, .ref a_2, .ref a_3, .ref a_4, .ref a_5, .int i_2, .int i_3, .int i_4, .int i_5, .int i_6, .long j_0, .int i_7, .int i_8, .int i_9, .int i_10, .ref a_6, .ref a_7, .ref a_8, .ref a_9, .ref a_10, .ref a_11, .ref a_12, .ref a_13, .ref a_14, .ref a_15, .ref a_16, .ref a_17, .ref a_18, .int i_11, .int i_12, .int i_13, .int i_14, .int i_15, .int i_16, .ref a_19, .int i_17, .ref a_20])), (a_7, .inl (cy 1, 30, .inl (mm_g [i_18, i_19, i_20, i_21, i_22, i_23, i_24, i_25, i_26, i_27, i_28, i_29, i_30, i_31, i_32, i_33, i_34, i_35, i_36, i_37, i_38, i_39, i_40, i_41, i_42, i_43, i_44, i_45, i_0, i_47])))] H) (hD : va_D A [(a_0, .inr (12, [.int i_1, .ref a_1, .ref a_2, .ref a_3, .ref a_4, .ref a_5, .int i_2, .int i_3, .int i_4, .int i_5, .int i_6, .long j_0, .int i_7, .int i_8, .int i_9, .int i_10, .ref a_6, .ref a_7, .ref a_8, .ref a_9, .ref a_10, .ref a_11, .ref a_12, .ref a_13, .ref a_14, .ref a_15, .ref a_16, .ref a_17, .ref a_18, .int i_11, .int i_12, .int i_13, .int i_14, .int i_15, .int i_16, .ref a_19, .int i_17, .ref a_20])), (a_7, .inl (cy 1, 30, .inl (mm_g [i_18, i_19, i_20, i_21, i_22, i_23, i_24, i_25, i_26, i_27, i_28, i_29, i_30, i_31, i_32, i_33, i_34, i_35, i_36, i_37, i_38, i_39, i_40, i_41, i_42, i_43, i_44, i_45, i_0, i_47])))]) hS
  subst hAe
  rw [hQ]
  exact W.vret hx hb hr (fun t ht hW => ⟨⟨(), rfl, trivial, by rw [ht]; exact hP, hK.warm hW, hD⟩, hS.F ht⟩) hS.2.2 dX12_tells_10

set_option maxHeartbeats 4000000 in
set_option maxRecDepth 100000 in
theorem M76_X12_textLine (l : Launch) (G : va_G) (cy : Nat → ClassId) (sz : Nat) (a_0 : Nat) (i_0 : Int32) (a_1 : Nat) (a_2 : Nat) (a_3 : Nat) (a_4 : Nat) (a_5 : Nat) (i_1 : Int32) (i_2 : Int32) (i_3 : Int32) (i_4 : Int32) (i_5 : Int32) (j_0 : Int64) (i_6 : Int32) (i_7 : Int32) (i_8 : Int32) (i_9 : Int32) (a_6 : Nat) (a_7 : Nat) (a_8 : Nat) (a_9 : Nat) (a_10 : Nat) (a_11 : Nat) (a_12 : Nat) (a_13 : Nat) (a_14 : Nat) (a_15 : Nat) (a_16 : Nat) (a_17 : Nat) (a_18 : Nat) (i_10 : Int32) (i_11 : Int32) (i_12 : Int32) (i_13 : Int32) (i_14 : Int32) (i_15 : Int32) (a_19 : Nat) (i_16 : Int32) (a_20 : Nat) (f_0 : Nat → Int32) (i_17 : Int32) (i_18 : Int32) (i_19 : Int32) (i_20 : Int32) (i_21 : Int32) (i_22 : Int32) (i_23 : Int32) (i_24 : Int32) (i_25 : Int32) (i_26 : Int32) (i_27 : Int32) (i_28 : Int32) (i_29 : Int32) (i_30 : Int32) (i_31 : Int32) (i_32 : Int32) (i_33 : Int32) (i_34 : Int32) (i_35 : Int32) (i_36 : Int32) (i_37 : Int32) (i_38 : Int32) (i_39 : Int32) (i_40 : Int32) (i_41 : Int32) (i_42 : Int32) (i_43 : Int32) (i_44 : Int32) (i_45 : Int32) (i_46 : Int32) (f_1 : Nat → Int32) (f_2 : Nat → Int32) (h0 : mm_rg i_1 0 600) (h1 : mm_rg i_2 0 600) (h2 : mm_rg i_3 0 4) (h3 : mm_rg i_4 0 600) (h4 : mm_rg i_6 0 3) (h5 : mm_ar f_0 (-128) 127) (h6 : mm_rg i_17 0 10) (h7 : mm_rg i_18 0 99) (h8 : mm_rg i_19 0 9) (h9 : mm_rg i_20 0 3) (h10 : mm_rg i_21 0 6) (h11 : mm_rg i_22 0 30) (h12 : mm_rg i_23 0 10) (h13 : mm_rg i_24 0 99) (h14 : mm_rg i_25 0 9) (h15 : mm_rg i_26 0 3) (h16 : mm_rg i_27 0 6) (h17 : mm_rg i_28 0 30) (h18 : mm_rg i_29 0 10) (h19 : mm_rg i_30 0 99) (h20 : mm_rg i_31 0 9) (h21 : mm_rg i_32 0 3) (h22 : mm_rg i_33 0 6) (h23 : mm_rg i_34 0 30) (h24 : mm_rg i_35 0 10) (h25 : mm_rg i_36 0 99) (h26 : mm_rg i_37 0 9) (h27 : mm_rg i_38 0 3) (h28 : mm_rg i_39 0 6) (h29 : mm_rg i_40 0 30) (h30 : mm_rg i_41 0 10) (h31 : mm_rg i_42 0 99) (h32 : mm_rg i_43 0 9) (h33 : mm_rg i_44 0 3) (h34 : mm_rg i_45 0 0) (h35 : mm_rg i_46 0 30) (h36 : mm_ar f_1 0 8) (h37 : mm_ar f_2 0 9) (h38 : mm_txs f_1 f_2 0 i_19 i_21) (h39 : mm_txs f_1 f_2 1 i_25 i_27) (h40 : mm_txs f_1 f_2 2 i_31 i_33) (h41 : mm_txs f_1 f_2 3 i_37 i_39) (h42 : (i_4 : Int32).toInt ≤ (i_2 : Int32).toInt) (h43 : (i_2 : Int32).toInt ≤ (i_1 : Int32).toInt) (h44 : mm_tk i_3 i_4 i_2) (h45 : mm_txs f_1 f_2 4 i_43 i_45)  : mm_CV l yX12_textLine (mm_ws yX12_textLine cX12_textLine 3 (none)) ({ frames := 4, cells := 0, slots := 0, locals := 87 } : Room) G cy sz [(a_0, .inr (12, [.int i_0, .ref a_1, .ref a_2, .ref a_3, .ref a_4, .ref a_5, .int i_1, .int i_2, .int i_3, .int i_4, .int i_5, .long j_0, .int i_6, .int i_7, .int i_8, .int i_9, .ref a_6, .ref a_7, .ref a_8, .ref a_9, .ref a_10, .ref a_11, .ref a_12, .ref a_13, .ref a_14, .ref a_15, .ref a_16, .ref a_17, .ref a_18, .int i_10, .int i_11, .int i_12, .int i_13, .int i_14, .int i_15, .ref a_19, .int i_16, .ref a_20])), (a_5, .inl (cy 0, 600, .inl f_0)), (a_7, .inl (cy 1, 30, .inl (mm_g [i_17, i_18, i_19, i_20, i_21, i_22, i_23, i_24, i_25, i_26, i_27, i_28, i_29, i_30, i_31, i_32, i_33, i_34, i_35, i_36, i_37, i_38, i_39, i_40, i_41, i_42, i_43, i_44, i_45, i_46]))), (a_11, .inl (cy 1, 30, .inl f_1)), (a_12, .inl (cy 1, 240, .inl f_2))] [.ref a_0] (fun u : Int32 × Int32 × Int32 × Int32 × Int64 × Int32 × Int32 × Int32 × (Nat → Int32) × (Nat → Int32) => [(a_0, .inr (12, [.int i_0, .ref a_1, .ref a_2, .ref a_3, .ref a_4, .ref a_5, .int i_1, .int u.1, .int u.2.1, .int u.2.2.1, .int u.2.2.2.1, .long u.2.2.2.2.1, .int u.2.2.2.2.2.1, .int u.2.2.2.2.2.2.1, .int i_8, .int i_9, .ref a_6, .ref a_7, .ref a_8, .ref a_9, .ref a_10, .ref a_11, .ref a_12, .ref a_13, .ref a_14, .ref a_15, .ref a_16, .ref a_17, .ref a_18, .int i_10, .int i_11, .int i_12, .int i_13, .int i_14, .int i_15, .ref a_19, .int i_16, .ref a_20])), (a_5, .inl (cy 0, 600, .inl f_0)), (a_7, .inl (cy 1, 30, .inl (mm_g [i_17, i_18, i_19, i_20, i_21, i_22, i_23, i_24, i_25, i_26, i_27, i_28, i_29, i_30, i_31, i_32, i_33, i_34, i_35, i_36, i_37, i_38, i_39, i_40, i_41, i_42, i_43, i_44, u.2.2.2.2.2.2.2.1, i_46]))), (a_11, .inl (cy 1, 30, .inl u.2.2.2.2.2.2.2.2.1)), (a_12, .inl (cy 1, 240, .inl u.2.2.2.2.2.2.2.2.2))]) (fun u : Int32 × Int32 × Int32 × Int32 × Int64 × Int32 × Int32 × Int32 × (Nat → Int32) × (Nat → Int32) => mm_rg u.1 0 600 ∧ mm_rg u.2.1 0 4 ∧ mm_rg u.2.2.1 0 600 ∧ mm_rg u.2.2.2.2.2.1 0 3 ∧ mm_rg u.2.2.2.2.2.2.2.1 1 1 ∧ mm_ar u.2.2.2.2.2.2.2.2.1 0 8 ∧ mm_ar u.2.2.2.2.2.2.2.2.2 0 9 ∧ mm_txs u.2.2.2.2.2.2.2.2.1 u.2.2.2.2.2.2.2.2.2 0 i_19 i_21 ∧ mm_txs u.2.2.2.2.2.2.2.2.1 u.2.2.2.2.2.2.2.2.2 1 i_25 i_27 ∧ mm_txs u.2.2.2.2.2.2.2.2.1 u.2.2.2.2.2.2.2.2.2 2 i_31 i_33 ∧ mm_txs u.2.2.2.2.2.2.2.2.1 u.2.2.2.2.2.2.2.2.2 3 i_37 i_39 ∧ (u.2.2.1 : Int32).toInt ≤ (u.1 : Int32).toInt ∧ (u.1 : Int32).toInt ≤ (i_1 : Int32).toInt ∧ mm_tk u.2.1 u.2.2.1 u.1 ∧ (i_4 : Int32).toInt ≤ (u.2.2.1 : Int32).toInt ∧ mm_txs u.2.2.2.2.2.2.2.2.1 u.2.2.2.2.2.2.2.2.2 4 i_43 u.2.2.2.2.2.2.2.1 ∧ mm_fr f_1 u.2.2.2.2.2.2.2.2.1 24 ∧ mm_fr f_2 u.2.2.2.2.2.2.2.2.2 192) 0 0 := by
  refine mm_begin (lv := [(0, .ref a_0)]) (by decide) (Nat.le_of_ble_eq_true rfl) rfl ?_
  intro p e s m below meth c A ls R args Q H locs hRe hQ hAe hx hb hr hlocks hml hown hnm hts hsz hA hS hP hK hD hZ hl
  have hRf : R.frames = 4 := by rw [hRe]
  have hRl : R.locals = 87 := by rw [hRe]
  have hRc : R.cells = 0 := by rw [hRe]
  have hRs : R.slots = 0 := by rw [hRe]
  refine lv_bipush (v := 24) hx hb dX12_textLine_0 (by decide) ?_
  refine lv_aload_n hx hb dX12_textLine_2 rfl (lv_at hl 0 rfl) ?_
  refine lv_iconst (v := 4) hx hb dX12_textLine_3 (by decide) ?_
  refine mm_finir (va_runV (As := [.int 4]) (rest := [.int 24]) ⟨hx, hb, hml, hown, hts⟩ (M43_X12_hasRead l G cy H.size a_0 i_0 a_1 a_2 a_3 a_4 a_5 i_1 i_2 i_3 i_4 i_5 j_0 i_6 i_7 i_8 i_9 a_6 a_7 a_8 a_9 a_10 a_11 a_12 a_13 a_14 a_15 a_16 a_17 a_18 i_10 i_11 i_12 i_13 i_14 i_15 a_19 i_16 a_20 i_17 i_18 i_19 i_20 i_21 i_22 i_23 i_24 i_25 i_26 i_27 i_28 i_29 i_30 i_31 i_32 i_33 i_34 i_35 i_36 i_37 i_38 i_39 i_40 i_41 i_42 i_43 i_44 i_45 i_46 h6 h7 h8 h9 h10 h11 h12 h13 h14 h15 h16 h17 h18 h19 h20 h21 h22 h23 h24 h25 h26 h27 h28 h29 h30 h31 h32 h33 (mm_wk h34 (by decide)) h35) (cwV 1 hts (mm_gV mm_w503 mm_w504 mm_w505 mm_w5 mm_w506) rfl rfl rfl hd_X12_hasRead ⟨by rw [hRf]; exact Nat.le_of_ble_eq_true rfl, by rw [hRl]; exact Nat.le_of_ble_eq_true rfl⟩) (mm_preV hK hZ hS hA hP hD [0, 2] rfl rfl 0 rfl rfl rfl) rfl rfl hl.1 rfl (lv_room (Nat.le_of_ble_eq_true rfl)) dX12_textLine_4 ⟨by rw [hRc]; exact Nat.le_of_ble_eq_true rfl, by rw [hRs]; exact Nat.le_of_ble_eq_true rfl⟩) hP hD hS hA [0, 2] rfl (fun _ => rfl) ?_
  clear hP hD hS
  clear H locs
  intro v1 _u H locs hw hP hD hS
  subst hw
  refine lv_iadd hx hb dX12_textLine_7 ?_
  refine lv_topi (fun v2 ev2 => ?_)
  have rv2 : mm_rg v2 24 24 := mm_add ev2 mm_k24 h34 (by decide) (by decide)
  have tv2 := mm_addEd ev2 mm_k24 h34 (by decide) (k := 24) (by decide)
  refine lv_istore_n (lv' := [(1, .int v2), (0, .ref a_0)]) hx hb dX12_textLine_8 rfl hl (by decide) rfl ?_
  clear hl
  clear ls
  intro ls hl
  refine lv_aload_n hx hb dX12_textLine_9 rfl (lv_at hl 1 rfl) ?_
  refine va_get (D := G) (ci := 12) (v := .ref a_11) (C := RX12) (T := TX12) (N := 38) hx hb hts (mm_i inlX12) hown hK.1 hP 0 rfl rfl 21 (by decide) (mm_h hts mm_w153) (fun _ h9 => h9) rfl dX12_textLine_10 ?_
  refine lv_iload_n hx hb dX12_textLine_13 rfl (lv_at hl 0 rfl) ?_
  refine lv_iconst (v := 0) hx hb dX12_textLine_14 (by decide) ?_
  refine va_iast hx hb hK.1 hP hD hS 3 1 rfl rfl (mm_in rv2 (by decide)) dX12_textLine_15 ?_
  clear hP hD hS
  clear H locs
  obtain ⟨g3, eg3⟩ : ∃ z : Nat → Int32, z = upd f_1 v2.toNatClampNeg 0 := ⟨_, rfl⟩
  rw [← eg3]
  intro H locs (hP : va_P G vwCl [(a_0, .inr (12, [.int i_0, .ref a_1, .ref a_2, .ref a_3, .ref a_4, .ref a_5, .int i_1, .int i_2, .int i_3, .int i_4, .int i_5, .long j_0, .int i_6, .int i_7, .int i_8, .int i_9, .ref a_6, .ref a_7, .ref a_8, .ref a_9, .ref a_10, .ref a_11, .ref a_12, .ref a_13, .ref a_14, .ref a_15, .ref a_16, .ref a_17, .ref a_18, .int i_10, .int i_11, .int i_12, .int i_13, .int i_14, .int i_15, .ref a_19, .int i_16, .ref a_20])), (a_5, .inl (cy 0, 600, .inl f_0)), (a_7, .inl (cy 1, 30, .inl (mm_g [i_17, i_18, i_19, i_20, i_21, i_22, i_23, i_24, i_25, i_26, i_27, i_28, i_29, i_30, i_31, i_32, i_33, i_34, i_35, i_36, i_37, i_38, i_39, i_40, i_41, i_42, i_43, i_44, i_45, i_46]))), (a_11, .inl (cy 1, 30, .inl g3)), (a_12, .inl (cy 1, 240, .inl f_2))] H) (hD : va_D A [(a_0, .inr (12, [.int i_0, .ref a_1, .ref a_2, .ref a_3, .ref a_4, .ref a_5, .int i_1, .int i_2, .int i_3, .int i_4, .int i_5, .long j_0, .int i_6, .int i_7, .int i_8, .int i_9, .ref a_6, .ref a_7, .ref a_8, .ref a_9, .ref a_10, .ref a_11, .ref a_12, .ref a_13, .ref a_14, .ref a_15, .ref a_16, .ref a_17, .ref a_18, .int i_10, .int i_11, .int i_12, .int i_13, .int i_14, .int i_15, .ref a_19, .int i_16, .ref a_20])), (a_5, .inl (cy 0, 600, .inl f_0)), (a_7, .inl (cy 1, 30, .inl (mm_g [i_17, i_18, i_19, i_20, i_21, i_22, i_23, i_24, i_25, i_26, i_27, i_28, i_29, i_30, i_31, i_32, i_33, i_34, i_35, i_36, i_37, i_38, i_39, i_40, i_41, i_42, i_43, i_44, i_45, i_46]))), (a_11, .inl (cy 1, 30, .inl g3)), (a_12, .inl (cy 1, 240, .inl f_2))]) hS
  have rg3 : mm_ar g3 0 8 := by rw [eg3]; exact mm_ar_upd (mm_ar_wk h36 (by decide)) (mm_wk mm_k0 (by decide)) _
  refine lv_aload_n hx hb dX12_textLine_16 rfl (lv_at hl 1 rfl) ?_
  refine mm_fini (va_runV (As := []) (rest := []) ⟨hx, hb, hml, hown, hts⟩ (M48_X12_wordHere l G cy H.size a_0 i_0 a_1 a_2 a_3 a_4 a_5 i_1 i_2 i_3 i_4 i_5 j_0 i_6 i_7 i_8 i_9 a_6 a_7 a_8 a_9 a_10 a_11 a_12 a_13 a_14 a_15 a_16 a_17 a_18 i_10 i_11 i_12 i_13 i_14 i_15 a_19 i_16 a_20 f_0 i_17 i_18 i_19 i_20 i_21 i_22 i_23 i_24 i_25 i_26 i_27 i_28 i_29 i_30 i_31 i_32 i_33 i_34 i_35 i_36 i_37 i_38 i_39 i_40 i_41 i_42 i_43 i_44 i_45 i_46 h0 h1 h2 h3 h4 h5 h6 h7 h8 h9 h10 h11 h12 h13 h14 h15 h16 h17 h18 h19 h20 h21 h22 h23 h24 h25 h26 h27 h28 h29 h30 h31 h32 h33 (mm_wk h34 (by decide)) h35 h42 h43 h44) (cwV 0 hts (mm_gV mm_w532 mm_w533 mm_w534 mm_w5 mm_w535) rfl rfl rfl hd_X12_wordHere ⟨by rw [hRf]; exact Nat.le_of_ble_eq_true rfl, by rw [hRl]; exact Nat.le_of_ble_eq_true rfl⟩) (mm_preV hK hZ hS hA hP hD [0, 1, 2] rfl rfl 0 rfl rfl rfl) rfl rfl hl.1 rfl (lv_room (Nat.le_of_ble_eq_true rfl)) dX12_textLine_17 ⟨by rw [hRc]; exact Nat.le_of_ble_eq_true rfl, by rw [hRs]; exact Nat.le_of_ble_eq_true rfl⟩) hP hD hS hA (fun u : Int32 × Int32 × Int32 × Int32 × Int64 × Int32 × Int32 => [(a_0, .inr (12, [.int i_0, .ref a_1, .ref a_2, .ref a_3, .ref a_4, .ref a_5, .int i_1, .int u.1, .int u.2.1, .int u.2.2.1, .int u.2.2.2.1, .long u.2.2.2.2.1, .int u.2.2.2.2.2.1, .int u.2.2.2.2.2.2, .int i_8, .int i_9, .ref a_6, .ref a_7, .ref a_8, .ref a_9, .ref a_10, .ref a_11, .ref a_12, .ref a_13, .ref a_14, .ref a_15, .ref a_16, .ref a_17, .ref a_18, .int i_10, .int i_11, .int i_12, .int i_13, .int i_14, .int i_15, .ref a_19, .int i_16, .ref a_20])), (a_5, .inl (cy 0, 600, .inl f_0)), (a_7, .inl (cy 1, 30, .inl (mm_g [i_17, i_18, i_19, i_20, i_21, i_22, i_23, i_24, i_25, i_26, i_27, i_28, i_29, i_30, i_31, i_32, i_33, i_34, i_35, i_36, i_37, i_38, i_39, i_40, i_41, i_42, i_43, i_44, i_45, i_46]))), (a_11, .inl (cy 1, 30, .inl g3)), (a_12, .inl (cy 1, 240, .inl f_2))]) [0, 1, 2] [3, 4] (n := 5) (fun _ => rfl) (by decide +kernel) (by decide +kernel) rfl (fun _ => rfl) (wr := [(a_11, .inl (cy 1, 30, .inl g3)), (a_12, .inl (cy 1, 240, .inl f_2))]) rfl (fun _ => rfl) (fun _ => @rfl _ ([a_0, a_5, a_7] : List Nat)) ?_
  clear hP hD hS
  clear H locs
  intro v11 u
  obtain ⟨n4, n5, n6, n7, n8, n9, n10⟩ := u
  intro H locs hw (hP : va_P G vwCl [(a_0, .inr (12, [.int i_0, .ref a_1, .ref a_2, .ref a_3, .ref a_4, .ref a_5, .int i_1, .int n4, .int n5, .int n6, .int n7, .long n8, .int n9, .int n10, .int i_8, .int i_9, .ref a_6, .ref a_7, .ref a_8, .ref a_9, .ref a_10, .ref a_11, .ref a_12, .ref a_13, .ref a_14, .ref a_15, .ref a_16, .ref a_17, .ref a_18, .int i_10, .int i_11, .int i_12, .int i_13, .int i_14, .int i_15, .ref a_19, .int i_16, .ref a_20])), (a_5, .inl (cy 0, 600, .inl f_0)), (a_7, .inl (cy 1, 30, .inl (mm_g [i_17, i_18, i_19, i_20, i_21, i_22, i_23, i_24, i_25, i_26, i_27, i_28, i_29, i_30, i_31, i_32, i_33, i_34, i_35, i_36, i_37, i_38, i_39, i_40, i_41, i_42, i_43, i_44, i_45, i_46]))), (a_11, .inl (cy 1, 30, .inl g3)), (a_12, .inl (cy 1, 240, .inl f_2))] H) (hD : va_D A [(a_0, .inr (12, [.int i_0, .ref a_1, .ref a_2, .ref a_3, .ref a_4, .ref a_5, .int i_1, .int n4, .int n5, .int n6, .int n7, .long n8, .int n9, .int n10, .int i_8, .int i_9, .ref a_6, .ref a_7, .ref a_8, .ref a_9, .ref a_10, .ref a_11, .ref a_12, .ref a_13, .ref a_14, .ref a_15, .ref a_16, .ref a_17, .ref a_18, .int i_10, .int i_11, .int i_12, .int i_13, .int i_14, .int i_15, .ref a_19, .int i_16, .ref a_20])), (a_5, .inl (cy 0, 600, .inl f_0)), (a_7, .inl (cy 1, 30, .inl (mm_g [i_17, i_18, i_19, i_20, i_21, i_22, i_23, i_24, i_25, i_26, i_27, i_28, i_29, i_30, i_31, i_32, i_33, i_34, i_35, i_36, i_37, i_38, i_39, i_40, i_41, i_42, i_43, i_44, i_45, i_46]))), (a_11, .inl (cy 1, 30, .inl g3)), (a_12, .inl (cy 1, 240, .inl f_2))]) hS
  obtain ⟨w12, w13, w14, w15, w16, w17, w18, w19, w20, hw⟩ := hw
  replace w16 : (n6 : Int32).toInt ≤ (n4 : Int32).toInt := w16
  replace w17 : (n4 : Int32).toInt ≤ (i_1 : Int32).toInt := w17
  replace w18 : mm_tk n5 n6 n4 := w18
  replace w19 : (i_4 : Int32).toInt ≤ (n6 : Int32).toInt := w19
  replace w20 : mm_b0 i_6 n9 := w20
  obtain ⟨w21, w22, w23⟩ := hw
  replace w22 : (v11 : Int32).toInt ≤ (i_43 : Int32).toInt := w22
  replace w23 : mm_nv n9 v11 i_3 i_5 := w23
  refine lv_istore_n (lv' := [(2, .int v11), (1, .int v2), (0, .ref a_0)]) hx hb dX12_textLine_20 rfl hl (by decide) rfl ?_
  clear hl
  clear ls
  intro ls hl
  have L21_133 : ∀ (n : Nat) (x21_2_115 : Int32) (y21_0_7_116 : Int32) (y21_0_8_117 : Int32) (y21_0_9_118 : Int32) (y21_0_10_119 : Int32) (y21_0_11_120 : Int64) (y21_0_12_121 : Int32) (y21_0_13_122 : Int32) (z21_3_123 : Nat → Int32) (z21_4_124 : Nat → Int32), mm_rg x21_2_115 0 9 → mm_rg y21_0_7_116 0 600 → mm_rg y21_0_8_117 0 4 → mm_rg y21_0_9_118 0 600 → mm_rg y21_0_12_121 0 3 → mm_ar z21_3_123 0 8 → mm_ar z21_4_124 0 9 → (y21_0_9_118 : Int32).toInt ≤ (y21_0_7_116 : Int32).toInt → (y21_0_7_116 : Int32).toInt ≤ (i_1 : Int32).toInt → mm_tk y21_0_8_117 y21_0_9_118 y21_0_7_116 → (i_4 : Int32).toInt ≤ (y21_0_9_118 : Int32).toInt → mm_b7 z21_3_123 v2 y21_0_12_121 → mm_fr f_1 z21_3_123 24 → mm_fr f_2 z21_4_124 192 → mm_txl f_1 f_2 z21_3_123 z21_4_124 v2 i_43 → (x21_2_115 : Int32).toInt ≤ (i_43 : Int32).toInt → (if (y21_0_12_121 : Int32).toInt = 0 then (8 - (z21_3_123 (v2 : Int32).toNatClampNeg).toInt).toNat + 1 else 0) < n → ∀ (H : Heap) (locs : List Loc), va_P G vwCl [(a_0, .inr (12, [.int i_0, .ref a_1, .ref a_2, .ref a_3, .ref a_4, .ref a_5, .int i_1, .int y21_0_7_116, .int y21_0_8_117, .int y21_0_9_118, .int y21_0_10_119, .long y21_0_11_120, .int y21_0_12_121, .int y21_0_13_122, .int i_8, .int i_9, .ref a_6, .ref a_7, .ref a_8, .ref a_9, .ref a_10, .ref a_11, .ref a_12, .ref a_13, .ref a_14, .ref a_15, .ref a_16, .ref a_17, .ref a_18, .int i_10, .int i_11, .int i_12, .int i_13, .int i_14, .int i_15, .ref a_19, .int i_16, .ref a_20])), (a_5, .inl (cy 0, 600, .inl f_0)), (a_7, .inl (cy 1, 30, .inl (mm_g [i_17, i_18, i_19, i_20, i_21, i_22, i_23, i_24, i_25, i_26, i_27, i_28, i_29, i_30, i_31, i_32, i_33, i_34, i_35, i_36, i_37, i_38, i_39, i_40, i_41, i_42, i_43, i_44, i_45, i_46]))), (a_11, .inl (cy 1, 30, .inl z21_3_123)), (a_12, .inl (cy 1, 240, .inl z21_4_124))] H → va_D A [(a_0, .inr (12, [.int i_0, .ref a_1, .ref a_2, .ref a_3, .ref a_4, .ref a_5, .int i_1, .int y21_0_7_116, .int y21_0_8_117, .int y21_0_9_118, .int y21_0_10_119, .long y21_0_11_120, .int y21_0_12_121, .int y21_0_13_122, .int i_8, .int i_9, .ref a_6, .ref a_7, .ref a_8, .ref a_9, .ref a_10, .ref a_11, .ref a_12, .ref a_13, .ref a_14, .ref a_15, .ref a_16, .ref a_17, .ref a_18, .int i_10, .int i_11, .int i_12, .int i_13, .int i_14, .int i_15, .ref a_19, .int i_16, .ref a_20])), (a_5, .inl (cy 0, 600, .inl f_0)), (a_7, .inl (cy 1, 30, .inl (mm_g [i_17, i_18, i_19, i_20, i_21, i_22, i_23, i_24, i_25, i_26, i_27, i_28, i_29, i_30, i_31, i_32, i_33, i_34, i_35, i_36, i_37, i_38, i_39, i_40, i_41, i_42, i_43, i_44, i_45, i_46]))), (a_11, .inl (cy 1, 30, .inl z21_3_123)), (a_12, .inl (cy 1, 240, .inl z21_4_124))] → va_S A s.heap H locs → ∀ (ls : Array Slot), lv_has ls 3 [(2, .int x21_2_115), (1, .int v2), (0, .ref a_0)] → W p l e R s m args below meth c H locs 0 0 Q (F0 m 21 ls []) := by
    intro n
    induction n with
    | zero => intro x21_2_115 y21_0_7_116 y21_0_8_117 y21_0_9_118 y21_0_10_119 y21_0_11_120 y21_0_12_121 y21_0_13_122 z21_3_123 z21_4_124 rx21_2_115 ry21_0_7_116 ry21_0_8_117 ry21_0_9_118 ry21_0_12_121 rz21_3_123 rz21_4_124 w125 w126 w127 w128 w129 w130 w131 w132 w133 hm; exact absurd hm (Nat.not_lt_zero _)
    | succ n ih21 =>
      intro x21_2_115 y21_0_7_116 y21_0_8_117 y21_0_9_118 y21_0_10_119 y21_0_11_120 y21_0_12_121 y21_0_13_122 z21_3_123 z21_4_124 rx21_2_115 ry21_0_7_116 ry21_0_8_117 ry21_0_9_118 ry21_0_12_121 rz21_3_123 rz21_4_124 w125 w126 w127 w128 w129 w130 w131 w132 w133 hm21 H locs hP hD hS ls hl
      refine lv_aload_n hx hb dX12_textLine_21 rfl (lv_at hl 2 rfl) ?_
      refine va_get (D := G) (ci := 12) (v := .int y21_0_12_121) (C := RX12) (T := TX12) (N := 38) hx hb hts (mm_i inlX12) hown hK.1 hP 0 rfl rfl 12 (by decide) (mm_h hts mm_w436) (fun _ h9 => h9) rfl dX12_textLine_22 ?_
      refine lv_if_ne (tgt := 106) hx hb dX12_textLine_25 (by decide) (fun c135 => ?_) (fun c135 => ?_)
      · have q136 := mm_neL (lo := 1) (mm_ne c135) ry21_0_12_121 mm_k0 (by decide) (by decide)
        refine lv_aload_n hx hb dX12_textLine_106 rfl (lv_at hl 2 rfl) ?_
        refine lv_iconst (v := 4) hx hb dX12_textLine_107 (by decide) ?_
        refine lv_aload_n hx hb dX12_textLine_108 rfl (lv_at hl 2 rfl) ?_
        refine lv_iconst (v := 4) hx hb dX12_textLine_109 (by decide) ?_
        refine mm_finir (va_runV (As := [.int 4]) (rest := [.int 4, .ref a_0]) ⟨hx, hb, hml, hown, hts⟩ (M43_X12_hasRead l G cy H.size a_0 i_0 a_1 a_2 a_3 a_4 a_5 i_1 y21_0_7_116 y21_0_8_117 y21_0_9_118 y21_0_10_119 y21_0_11_120 y21_0_12_121 y21_0_13_122 i_8 i_9 a_6 a_7 a_8 a_9 a_10 a_11 a_12 a_13 a_14 a_15 a_16 a_17 a_18 i_10 i_11 i_12 i_13 i_14 i_15 a_19 i_16 a_20 i_17 i_18 i_19 i_20 i_21 i_22 i_23 i_24 i_25 i_26 i_27 i_28 i_29 i_30 i_31 i_32 i_33 i_34 i_35 i_36 i_37 i_38 i_39 i_40 i_41 i_42 i_43 i_44 i_45 i_46 h6 h7 h8 h9 h10 h11 h12 h13 h14 h15 h16 h17 h18 h19 h20 h21 h22 h23 h24 h25 h26 h27 h28 h29 h30 h31 h32 h33 (mm_wk h34 (by decide)) h35) (cwV 1 hts (mm_gV mm_w503 mm_w504 mm_w505 mm_w5 mm_w506) rfl rfl rfl hd_X12_hasRead ⟨by rw [hRf]; exact Nat.le_of_ble_eq_true rfl, by rw [hRl]; exact Nat.le_of_ble_eq_true rfl⟩) (mm_preV hK hZ hS hA hP hD [0, 2] rfl rfl 0 rfl rfl rfl) rfl rfl hl.1 rfl (lv_room (Nat.le_of_ble_eq_true rfl)) dX12_textLine_110 ⟨by rw [hRc]; exact Nat.le_of_ble_eq_true rfl, by rw [hRs]; exact Nat.le_of_ble_eq_true rfl⟩) hP hD hS hA [0, 2] rfl (fun _ => rfl) ?_
        clear hP hD hS
        clear H locs
        intro v137 _u H locs hw hP hD hS
        subst hw
        refine lv_iconst (v := 1) hx hb dX12_textLine_113 (by decide) ?_
        refine lv_iadd hx hb dX12_textLine_114 ?_
        refine lv_topi (fun v138 ev138 => ?_)
        have rv138 : mm_rg v138 1 1 := mm_add ev138 h34 mm_k1 (by decide) (by decide)
        have tv138 := mm_addEc ev138 h34 mm_k1 (by decide) (k := 1) (by decide)
        refine mm_finv (va_runV (As := [.int 4, .int v138]) (rest := []) ⟨hx, hb, hml, hown, hts⟩ (M75_X12_tells l G cy H.size a_0 v138 i_0 a_1 a_2 a_3 a_4 a_5 i_1 y21_0_7_116 y21_0_8_117 y21_0_9_118 y21_0_10_119 y21_0_11_120 y21_0_12_121 y21_0_13_122 i_8 i_9 a_6 a_7 a_8 a_9 a_10 a_11 a_12 a_13 a_14 a_15 a_16 a_17 a_18 i_10 i_11 i_12 i_13 i_14 i_15 a_19 i_16 a_20 i_17 i_18 i_19 i_20 i_21 i_22 i_23 i_24 i_25 i_26 i_27 i_28 i_29 i_30 i_31 i_32 i_33 i_34 i_35 i_36 i_37 i_38 i_39 i_40 i_41 i_42 i_43 i_44 i_45 i_46 rv138 h6 h7 h8 h9 h10 h11 h12 h13 h14 h15 h16 h17 h18 h19 h20 h21 h22 h23 h24 h25 h26 h27 h28 h29 h30 h31 h32 h33 (mm_wk h34 (by decide)) h35) (cwV 2 hts (mm_gV mm_w441 mm_w442 mm_w443 mm_w5 mm_w444) rfl rfl rfl hd_X12_tells ⟨by rw [hRf]; exact Nat.le_of_ble_eq_true rfl, by rw [hRl]; exact Nat.le_of_ble_eq_true rfl⟩) (mm_preV hK hZ hS hA hP hD [0, 2] rfl rfl 0 rfl rfl rfl) rfl rfl hl.1 rfl (lv_room (Nat.le_of_ble_eq_true rfl)) dX12_textLine_115 ⟨by rw [hRc]; exact Nat.le_of_ble_eq_true rfl, by rw [hRs]; exact Nat.le_of_ble_eq_true rfl⟩) hP hD hS hA (fun u : Unit => [(a_0, .inr (12, [.int i_0, .ref a_1, .ref a_2, .ref a_3, .ref a_4, .ref a_5, .int i_1, .int y21_0_7_116, .int y21_0_8_117, .int y21_0_9_118, .int y21_0_10_119, .long y21_0_11_120, .int y21_0_12_121, .int y21_0_13_122, .int i_8, .int i_9, .ref a_6, .ref a_7, .ref a_8, .ref a_9, .ref a_10, .ref a_11, .ref a_12, .ref a_13, .ref a_14, .ref a_15, .ref a_16, .ref a_17, .ref a_18, .int i_10, .int i_11, .int i_12, .int i_13, .int i_14, .int i_15, .ref a_19, .int i_16, .ref a_20])), (a_5, .inl (cy 0, 600, .inl f_0)), (a_7, .inl (cy 1, 30, .inl (mm_g [i_17, i_18, i_19, i_20, i_21, i_22, i_23, i_24, i_25, i_26, i_27, i_28, i_29, i_30, i_31, i_32, i_33, i_34, i_35, i_36, i_37, i_38, i_39, i_40, i_41, i_42, i_43, i_44, v138, i_46]))), (a_11, .inl (cy 1, 30, .inl z21_3_123)), (a_12, .inl (cy 1, 240, .inl z21_4_124))]) [0, 2] [1, 3, 4] (n := 5) (fun _ => rfl) (by decide +kernel) (by decide +kernel) rfl (fun _ => rfl) (wr := [(a_5, .inl (cy 0, 600, .inl f_0)), (a_11, .inl (cy 1, 30, .inl z21_3_123)), (a_12, .inl (cy 1, 240, .inl z21_4_124))]) rfl (fun _ => rfl) (fun _ => @rfl _ ([a_0, a_7] : List Nat)) ?_
        clear hP hD hS
        clear H locs
        intro _u H locs hw (hP : va_P G vwCl [(a_0, .inr (12, [.int i_0, .ref a_1, .ref a_2, .ref a_3, .ref a_4, .ref a_5, .int i_1, .int y21_0_7_116, .int y21_0_8_117, .int y21_0_9_118, .int y21_0_10_119, .long y21_0_11_120, .int y21_0_12_121, .int y21_0_13_122, .int i_8, .int i_9, .ref a_6, .ref a_7, .ref a_8, .ref a_9, .ref a_10, .ref a_11, .ref a_12, .ref a_13, .ref a_14, .ref a_15, .ref a_16, .ref a_17, .ref a_18, .int i_10, .int i_11, .int i_12, .int i_13, .int i_14, .int i_15, .ref a_19, .int i_16, .ref a_20])), (a_5, .inl (cy 0, 600, .inl f_0)), (a_7, .inl (cy 1, 30, .inl (mm_g [i_17, i_18, i_19, i_20, i_21, i_22, i_23, i_24, i_25, i_26, i_27, i_28, i_29, i_30, i_31, i_32, i_33, i_34, i_35, i_36, i_37, i_38, i_39, i_40, i_41, i_42, i_43, i_44, v138, i_46]))), (a_11, .inl (cy 1, 30, .inl z21_3_123)), (a_12, .inl (cy 1, 240, .inl z21_4_124))] H) (hD : va_D A [(a_0, .inr (12, [.int i_0, .ref a_1, .ref a_2, .ref a_3, .ref a_4, .ref a_5, .int i_1, .int y21_0_7_116, .int y21_0_8_117, .int y21_0_9_118, .int y21_0_10_119, .long y21_0_11_120, .int y21_0_12_121, .int y21_0_13_122, .int i_8, .int i_9, .ref a_6, .ref a_7, .ref a_8, .ref a_9, .ref a_10, .ref a_11, .ref a_12, .ref a_13, .ref a_14, .ref a_15, .ref a_16, .ref a_17, .ref a_18, .int i_10, .int i_11, .int i_12, .int i_13, .int i_14, .int i_15, .ref a_19, .int i_16, .ref a_20])), (a_5, .inl (cy 0, 600, .inl f_0)), (a_7, .inl (cy 1, 30, .inl (mm_g [i_17, i_18, i_19, i_20, i_21, i_22, i_23, i_24, i_25, i_26, i_27, i_28, i_29, i_30, i_31, i_32, i_33, i_34, i_35, i_36, i_37, i_38, i_39, i_40, i_41, i_42, i_43, i_44, v138, i_46]))), (a_11, .inl (cy 1, 30, .inl z21_3_123)), (a_12, .inl (cy 1, 240, .inl z21_4_124))]) hS
        have w139 : mm_txs z21_3_123 z21_4_124 0 i_19 i_21 := (mm_txs_fr h38 w130 w131 (by decide))
        have w140 : mm_txs z21_3_123 z21_4_124 1 i_25 i_27 := (mm_txs_fr h39 w130 w131 (by decide))
        have w141 : mm_txs z21_3_123 z21_4_124 2 i_31 i_33 := (mm_txs_fr h40 w130 w131 (by decide))
        have w142 : mm_txs z21_3_123 z21_4_124 3 i_37 i_39 := (mm_txs_fr h41 w130 w131 (by decide))
        have w143 : mm_txs z21_3_123 z21_4_124 4 i_43 v138 := (mm_txs_t h45 w132 (by have := tv2; omega) (by have := tv138; omega) h34 (by decide))
        subst hAe
        rw [hQ]
        exact W.vret hx hb hr (fun t ht hW => ⟨⟨(y21_0_7_116, y21_0_8_117, y21_0_9_118, y21_0_10_119, y21_0_11_120, y21_0_12_121, y21_0_13_122, v138, z21_3_123, z21_4_124), rfl, ⟨ry21_0_7_116, ry21_0_8_117, ry21_0_9_118, (mm_wk q136 (by decide)), rv138, rz21_3_123, rz21_4_124, w139, w140, w141, w142, w125, w126, w127, w128, w143, w130, w131⟩, by rw [ht]; exact hP, hK.warm hW, hD⟩, hS.F ht⟩) hS.2.2 dX12_textLine_118
      · have q144 := mm_eqI (lo := 0) (hi := 0) c135 ry21_0_12_121 mm_k0 (by decide)
        refine lv_aload_n hx hb dX12_textLine_28 rfl (lv_at hl 2 rfl) ?_
        refine va_get (D := G) (ci := 12) (v := .ref a_12) (C := RX12) (T := TX12) (N := 38) hx hb hts (mm_i inlX12) hown hK.1 hP 0 rfl rfl 22 (by decide) (mm_h hts mm_w154) (fun _ h9 => h9) rfl dX12_textLine_29 ?_
        refine lv_bipush (v := 8) hx hb dX12_textLine_32 (by decide) ?_
        refine lv_iload_n hx hb dX12_textLine_34 rfl (lv_at hl 1 rfl) ?_
        refine lv_imul hx hb dX12_textLine_35 ?_
        refine lv_topi (fun v145 ev145 => ?_)
        have rv145 : mm_rg v145 192 192 := mm_mul ev145 mm_k8 rv2 (by decide) (by decide)
        have tv145 := mm_mulEc ev145 mm_k8 rv2 (by decide) (k := 8) (by decide)
        refine lv_aload_n hx hb dX12_textLine_36 rfl (lv_at hl 2 rfl) ?_
        refine va_get (D := G) (ci := 12) (v := .ref a_11) (C := RX12) (T := TX12) (N := 38) hx hb hts (mm_i inlX12) hown hK.1 hP 0 rfl rfl 21 (by decide) (mm_h hts mm_w153) (fun _ h9 => h9) rfl dX12_textLine_37 ?_
        refine lv_iload_n hx hb dX12_textLine_40 rfl (lv_at hl 1 rfl) ?_
        refine va_iald hx hb hK.1 hP 3 1 rfl rfl (mm_in rv2 (by decide)) dX12_textLine_41 ?_
        refine lv_topi (fun v146 ev146 => ?_)
        have rv146 : mm_rg v146 0 8 := mm_eqv ev146 (rz21_3_123 _)
        have q147 : mm_rg v146 0 7 := mm_b7_ld w129 q144 ev146 rv146 (by decide)
        refine lv_iadd hx hb dX12_textLine_42 ?_
        refine lv_topi (fun v148 ev148 => ?_)
        have rv148 : mm_rg v148 192 199 := mm_add ev148 rv145 q147 (by decide) (by decide)
        have tv148 := mm_addE ev148 rv145 q147 (by decide)
        refine lv_iload_n hx hb dX12_textLine_43 rfl (lv_at hl 0 rfl) ?_
        refine va_iast hx hb hK.1 hP hD hS 4 1 rfl rfl (mm_in rv148 (by decide)) dX12_textLine_44 ?_
        clear hP hD hS
        clear H locs
        obtain ⟨g149, eg149⟩ : ∃ z : Nat → Int32, z = upd z21_4_124 v148.toNatClampNeg x21_2_115 := ⟨_, rfl⟩
        rw [← eg149]
        intro H locs (hP : va_P G vwCl [(a_0, .inr (12, [.int i_0, .ref a_1, .ref a_2, .ref a_3, .ref a_4, .ref a_5, .int i_1, .int y21_0_7_116, .int y21_0_8_117, .int y21_0_9_118, .int y21_0_10_119, .long y21_0_11_120, .int y21_0_12_121, .int y21_0_13_122, .int i_8, .int i_9, .ref a_6, .ref a_7, .ref a_8, .ref a_9, .ref a_10, .ref a_11, .ref a_12, .ref a_13, .ref a_14, .ref a_15, .ref a_16, .ref a_17, .ref a_18, .int i_10, .int i_11, .int i_12, .int i_13, .int i_14, .int i_15, .ref a_19, .int i_16, .ref a_20])), (a_5, .inl (cy 0, 600, .inl f_0)), (a_7, .inl (cy 1, 30, .inl (mm_g [i_17, i_18, i_19, i_20, i_21, i_22, i_23, i_24, i_25, i_26, i_27, i_28, i_29, i_30, i_31, i_32, i_33, i_34, i_35, i_36, i_37, i_38, i_39, i_40, i_41, i_42, i_43, i_44, i_45, i_46]))), (a_11, .inl (cy 1, 30, .inl z21_3_123)), (a_12, .inl (cy 1, 240, .inl g149))] H) (hD : va_D A [(a_0, .inr (12, [.int i_0, .ref a_1, .ref a_2, .ref a_3, .ref a_4, .ref a_5, .int i_1, .int y21_0_7_116, .int y21_0_8_117, .int y21_0_9_118, .int y21_0_10_119, .long y21_0_11_120, .int y21_0_12_121, .int y21_0_13_122, .int i_8, .int i_9, .ref a_6, .ref a_7, .ref a_8, .ref a_9, .ref a_10, .ref a_11, .ref a_12, .ref a_13, .ref a_14, .ref a_15, .ref a_16, .ref a_17, .ref a_18, .int i_10, .int i_11, .int i_12, .int i_13, .int i_14, .int i_15, .ref a_19, .int i_16, .ref a_20])), (a_5, .inl (cy 0, 600, .inl f_0)), (a_7, .inl (cy 1, 30, .inl (mm_g [i_17, i_18, i_19, i_20, i_21, i_22, i_23, i_24, i_25, i_26, i_27, i_28, i_29, i_30, i_31, i_32, i_33, i_34, i_35, i_36, i_37, i_38, i_39, i_40, i_41, i_42, i_43, i_44, i_45, i_46]))), (a_11, .inl (cy 1, 30, .inl z21_3_123)), (a_12, .inl (cy 1, 240, .inl g149))]) hS
        have rg149 : mm_ar g149 0 9 := by rw [eg149]; exact mm_ar_upd (mm_ar_wk rz21_4_124 (by decide)) (mm_wk rx21_2_115 (by decide)) _
        refine lv_aload_n hx hb dX12_textLine_45 rfl (lv_at hl 2 rfl) ?_
        refine va_get (D := G) (ci := 12) (v := .ref a_11) (C := RX12) (T := TX12) (N := 38) hx hb hts (mm_i inlX12) hown hK.1 hP 0 rfl rfl 21 (by decide) (mm_h hts mm_w153) (fun _ h9 => h9) rfl dX12_textLine_46 ?_
        refine lv_iload_n hx hb dX12_textLine_49 rfl (lv_at hl 1 rfl) ?_
        refine lv_dup2_11 hx hb dX12_textLine_50 rfl rfl ?_
        refine va_iald hx hb hK.1 hP 3 1 rfl rfl (mm_in rv2 (by decide)) dX12_textLine_51 ?_
        refine lv_topi (fun v150 ev150 => ?_)
        have rv150 : mm_rg v150 0 8 := mm_eqv ev150 (rz21_3_123 _)
        have q151 : mm_rg v150 0 7 := mm_b7_ld w129 q144 ev150 rv150 (by decide)
        obtain rfl : v146 = v150 := ev146.trans ev150.symm
        refine lv_iconst (v := 1) hx hb dX12_textLine_52 (by decide) ?_
        refine lv_iadd hx hb dX12_textLine_53 ?_
        refine lv_topi (fun v152 ev152 => ?_)
        have rv152 : mm_rg v152 1 8 := mm_add ev152 q147 mm_k1 (by decide) (by decide)
        have tv152 := mm_addEc ev152 q147 mm_k1 (by decide) (k := 1) (by decide)
        refine va_iast hx hb hK.1 hP hD hS 3 1 rfl rfl (mm_in rv2 (by decide)) dX12_textLine_54 ?_
        clear hP hD hS
        clear H locs
        obtain ⟨g153, eg153⟩ : ∃ z : Nat → Int32, z = upd z21_3_123 v2.toNatClampNeg v152 := ⟨_, rfl⟩
        rw [← eg153]
        intro H locs (hP : va_P G vwCl [(a_0, .inr (12, [.int i_0, .ref a_1, .ref a_2, .ref a_3, .ref a_4, .ref a_5, .int i_1, .int y21_0_7_116, .int y21_0_8_117, .int y21_0_9_118, .int y21_0_10_119, .long y21_0_11_120, .int y21_0_12_121, .int y21_0_13_122, .int i_8, .int i_9, .ref a_6, .ref a_7, .ref a_8, .ref a_9, .ref a_10, .ref a_11, .ref a_12, .ref a_13, .ref a_14, .ref a_15, .ref a_16, .ref a_17, .ref a_18, .int i_10, .int i_11, .int i_12, .int i_13, .int i_14, .int i_15, .ref a_19, .int i_16, .ref a_20])), (a_5, .inl (cy 0, 600, .inl f_0)), (a_7, .inl (cy 1, 30, .inl (mm_g [i_17, i_18, i_19, i_20, i_21, i_22, i_23, i_24, i_25, i_26, i_27, i_28, i_29, i_30, i_31, i_32, i_33, i_34, i_35, i_36, i_37, i_38, i_39, i_40, i_41, i_42, i_43, i_44, i_45, i_46]))), (a_11, .inl (cy 1, 30, .inl g153)), (a_12, .inl (cy 1, 240, .inl g149))] H) (hD : va_D A [(a_0, .inr (12, [.int i_0, .ref a_1, .ref a_2, .ref a_3, .ref a_4, .ref a_5, .int i_1, .int y21_0_7_116, .int y21_0_8_117, .int y21_0_9_118, .int y21_0_10_119, .long y21_0_11_120, .int y21_0_12_121, .int y21_0_13_122, .int i_8, .int i_9, .ref a_6, .ref a_7, .ref a_8, .ref a_9, .ref a_10, .ref a_11, .ref a_12, .ref a_13, .ref a_14, .ref a_15, .ref a_16, .ref a_17, .ref a_18, .int i_10, .int i_11, .int i_12, .int i_13, .int i_14, .int i_15, .ref a_19, .int i_16, .ref a_20])), (a_5, .inl (cy 0, 600, .inl f_0)), (a_7, .inl (cy 1, 30, .inl (mm_g [i_17, i_18, i_19, i_20, i_21, i_22, i_23, i_24, i_25, i_26, i_27, i_28, i_29, i_30, i_31, i_32, i_33, i_34, i_35, i_36, i_37, i_38, i_39, i_40, i_41, i_42, i_43, i_44, i_45, i_46]))), (a_11, .inl (cy 1, 30, .inl g153)), (a_12, .inl (cy 1, 240, .inl g149))]) hS
        have rg153 : mm_ar g153 0 8 := by rw [eg153]; exact mm_ar_upd (mm_ar_wk rz21_3_123 (by decide)) (mm_wk rv152 (by decide)) _
        refine lv_aload_n hx hb dX12_textLine_55 rfl (lv_at hl 2 rfl) ?_
        refine va_get (D := G) (ci := 12) (v := .int y21_0_8_117) (C := RX12) (T := TX12) (N := 38) hx hb hts (mm_i inlX12) hown hK.1 hP 0 rfl rfl 8 (by decide) (mm_h hts mm_w432) (fun _ h9 => h9) rfl dX12_textLine_56 ?_
        refine lv_iconst (v := 2) hx hb dX12_textLine_59 (by decide) ?_
        refine lv_icmp_eq (tgt := 66) hx hb dX12_textLine_60 (by decide) (fun c154 => ?_) (fun c154 => ?_)
        · have q155 := mm_eqI (lo := 2) (hi := 2) c154 ry21_0_8_117 mm_k2 (by decide)
          refine lv_aload_n hx hb dX12_textLine_66 rfl (lv_at hl 2 rfl) ?_
          refine va_get (D := G) (ci := 12) (v := .ref a_11) (C := RX12) (T := TX12) (N := 38) hx hb hts (mm_i inlX12) hown hK.1 hP 0 rfl rfl 21 (by decide) (mm_h hts mm_w153) (fun _ h9 => h9) rfl dX12_textLine_67 ?_
          refine lv_iload_n hx hb dX12_textLine_70 rfl (lv_at hl 1 rfl) ?_
          refine va_iald hx hb hK.1 hP 3 1 rfl rfl (mm_in rv2 (by decide)) dX12_textLine_71 ?_
          refine lv_topi (fun v156 ev156 => ?_)
          obtain rfl : v152 = v156 := (ev156.trans (by rw [eg153]; exact pk_us)).symm
          refine lv_bipush (v := 8) hx hb dX12_textLine_72 (by decide) ?_
          refine lv_icmp_ne (tgt := 98) hx hb dX12_textLine_74 (by decide) (fun c157 => ?_) (fun c157 => ?_)
          · have q158 := mm_neH (hi := 7) (mm_ne c157) rv152 mm_k8 (by decide) (by decide)
            have q159 : mm_rg v146 0 6 := mm_unadd tv152 q158 q147 (by decide) (by decide)
            refine lv_aload_n hx hb dX12_textLine_98 rfl (lv_at hl 2 rfl) ?_
            refine mm_fini (va_runV (As := []) (rest := []) ⟨hx, hb, hml, hown, hts⟩ (M50_X12_wordHere l G cy H.size a_0 i_0 a_1 a_2 a_3 a_4 a_5 i_1 y21_0_7_116 y21_0_8_117 y21_0_9_118 y21_0_10_119 y21_0_11_120 y21_0_12_121 y21_0_13_122 i_8 i_9 a_6 a_7 a_8 a_9 a_10 a_11 a_12 a_13 a_14 a_15 a_16 a_17 a_18 i_10 i_11 i_12 i_13 i_14 i_15 a_19 i_16 a_20 f_0 i_17 i_18 i_19 i_20 i_21 i_22 i_23 i_24 i_25 i_26 i_27 i_28 i_29 i_30 i_31 i_32 i_33 i_34 i_35 i_36 i_37 i_38 i_39 i_40 i_41 i_42 i_43 i_44 i_45 i_46 h0 ry21_0_7_116 (mm_wk q155 (by decide)) ry21_0_9_118 q144 h5 h6 h7 h8 h9 h10 h11 h12 h13 h14 h15 h16 h17 h18 h19 h20 h21 h22 h23 h24 h25 h26 h27 h28 h29 h30 h31 h32 h33 (mm_wk h34 (by decide)) h35 w125 w126 w127) (cwV 0 hts (mm_gV mm_w532 mm_w533 mm_w534 mm_w5 mm_w535) rfl rfl rfl hd_X12_wordHere ⟨by rw [hRf]; exact Nat.le_of_ble_eq_true rfl, by rw [hRl]; exact Nat.le_of_ble_eq_true rfl⟩) (mm_preV hK hZ hS hA hP hD [0, 1, 2] rfl rfl 0 rfl rfl rfl) rfl rfl hl.1 rfl (lv_room (Nat.le_of_ble_eq_true rfl)) dX12_textLine_99 ⟨by rw [hRc]; exact Nat.le_of_ble_eq_true rfl, by rw [hRs]; exact Nat.le_of_ble_eq_true rfl⟩) hP hD hS hA (fun u : Int32 × Int32 × Int32 × Int32 × Int64 × Int32 × Int32 => [(a_0, .inr (12, [.int i_0, .ref a_1, .ref a_2, .ref a_3, .ref a_4, .ref a_5, .int i_1, .int u.1, .int u.2.1, .int u.2.2.1, .int u.2.2.2.1, .long u.2.2.2.2.1, .int u.2.2.2.2.2.1, .int u.2.2.2.2.2.2, .int i_8, .int i_9, .ref a_6, .ref a_7, .ref a_8, .ref a_9, .ref a_10, .ref a_11, .ref a_12, .ref a_13, .ref a_14, .ref a_15, .ref a_16, .ref a_17, .ref a_18, .int i_10, .int i_11, .int i_12, .int i_13, .int i_14, .int i_15, .ref a_19, .int i_16, .ref a_20])), (a_5, .inl (cy 0, 600, .inl f_0)), (a_7, .inl (cy 1, 30, .inl (mm_g [i_17, i_18, i_19, i_20, i_21, i_22, i_23, i_24, i_25, i_26, i_27, i_28, i_29, i_30, i_31, i_32, i_33, i_34, i_35, i_36, i_37, i_38, i_39, i_40, i_41, i_42, i_43, i_44, i_45, i_46]))), (a_11, .inl (cy 1, 30, .inl g153)), (a_12, .inl (cy 1, 240, .inl g149))]) [0, 1, 2] [3, 4] (n := 5) (fun _ => rfl) (by decide +kernel) (by decide +kernel) rfl (fun _ => rfl) (wr := [(a_11, .inl (cy 1, 30, .inl g153)), (a_12, .inl (cy 1, 240, .inl g149))]) rfl (fun _ => rfl) (fun _ => @rfl _ ([a_0, a_5, a_7] : List Nat)) ?_
            clear hP hD hS
            clear H locs
            intro v167 u
            obtain ⟨n160, n161, n162, n163, n164, n165, n166⟩ := u
            intro H locs hw (hP : va_P G vwCl [(a_0, .inr (12, [.int i_0, .ref a_1, .ref a_2, .ref a_3, .ref a_4, .ref a_5, .int i_1, .int n160, .int n161, .int n162, .int n163, .long n164, .int n165, .int n166, .int i_8, .int i_9, .ref a_6, .ref a_7, .ref a_8, .ref a_9, .ref a_10, .ref a_11, .ref a_12, .ref a_13, .ref a_14, .ref a_15, .ref a_16, .ref a_17, .ref a_18, .int i_10, .int i_11, .int i_12, .int i_13, .int i_14, .int i_15, .ref a_19, .int i_16, .ref a_20])), (a_5, .inl (cy 0, 600, .inl f_0)), (a_7, .inl (cy 1, 30, .inl (mm_g [i_17, i_18, i_19, i_20, i_21, i_22, i_23, i_24, i_25, i_26, i_27, i_28, i_29, i_30, i_31, i_32, i_33, i_34, i_35, i_36, i_37, i_38, i_39, i_40, i_41, i_42, i_43, i_44, i_45, i_46]))), (a_11, .inl (cy 1, 30, .inl g153)), (a_12, .inl (cy 1, 240, .inl g149))] H) (hD : va_D A [(a_0, .inr (12, [.int i_0, .ref a_1, .ref a_2, .ref a_3, .ref a_4, .ref a_5, .int i_1, .int n160, .int n161, .int n162, .int n163, .long n164, .int n165, .int n166, .int i_8, .int i_9, .ref a_6, .ref a_7, .ref a_8, .ref a_9, .ref a_10, .ref a_11, .ref a_12, .ref a_13, .ref a_14, .ref a_15, .ref a_16, .ref a_17, .ref a_18, .int i_10, .int i_11, .int i_12, .int i_13, .int i_14, .int i_15, .ref a_19, .int i_16, .ref a_20])), (a_5, .inl (cy 0, 600, .inl f_0)), (a_7, .inl (cy 1, 30, .inl (mm_g [i_17, i_18, i_19, i_20, i_21, i_22, i_23, i_24, i_25, i_26, i_27, i_28, i_29, i_30, i_31, i_32, i_33, i_34, i_35, i_36, i_37, i_38, i_39, i_40, i_41, i_42, i_43, i_44, i_45, i_46]))), (a_11, .inl (cy 1, 30, .inl g153)), (a_12, .inl (cy 1, 240, .inl g149))]) hS
            obtain ⟨w168, w169, w170, w171, w172, w173, w174, w175, w176, hw⟩ := hw
            replace w172 : (n162 : Int32).toInt ≤ (n160 : Int32).toInt := w172
            replace w173 : (n160 : Int32).toInt ≤ (i_1 : Int32).toInt := w173
            replace w174 : mm_tk n161 n162 n160 := w174
            replace w175 : (y21_0_9_118 : Int32).toInt ≤ (n162 : Int32).toInt := w175
            replace w176 : mm_b0 y21_0_12_121 n165 := w176
            obtain ⟨w177, w178, w179⟩ := hw
            replace w178 : (v167 : Int32).toInt ≤ (i_43 : Int32).toInt := w178
            replace w179 : mm_nv n165 v167 y21_0_8_117 y21_0_10_119 := w179
            refine lv_istore_n (lv' := [(2, .int v167), (1, .int v2), (0, .ref a_0)]) hx hb dX12_textLine_102 rfl hl (by decide) rfl ?_
            clear hl
            clear ls
            intro ls hl
            refine lv_goto (tgt := 21) hx hb dX12_textLine_103 (by decide) ?_
            exact ih21 v167 n160 n161 n162 n163 n164 n165 n166 g153 g149 w177 w168 w169 w170 w171 rg153 rg149 w172 w173 w174 (by have := w128; have := w175; omega) (mm_b7_u eg153 q158 (by decide)) (mm_fr_u w130 eg153 rv2 (by decide)) (mm_fr_u w131 eg149 rv148 (by decide)) (mm_txl_s w132 eg153 eg149 ev146 tv152 (by have := tv148; have := tv145; omega) w133 rx21_2_115 q159 rv2 (by decide)) w178 (mm_tmM hm21 q144 ev146 eg153 tv152 q159 (by decide)) H locs hP hD hS ls (lv_sub hl [0, 1, 2] rfl)
          · have q180 := mm_eqI (lo := 8) (hi := 8) c157 rv152 mm_k8 (by decide)
            have q181 : mm_rg v146 7 7 := mm_unadd tv152 q180 q147 (by decide) (by decide)
            refine lv_aload_n hx hb dX12_textLine_77 rfl (lv_at hl 2 rfl) ?_
            refine lv_aload_n hx hb dX12_textLine_78 rfl (lv_at hl 2 rfl) ?_
            refine va_get (D := G) (ci := 12) (v := .int y21_0_10_119) (C := RX12) (T := TX12) (N := 38) hx hb hts (mm_i inlX12) hown hK.1 hP 0 rfl rfl 10 (by decide) (mm_h hts mm_w456) (fun _ h9 => h9) rfl dX12_textLine_79 ?_
            refine lv_aload_n hx hb dX12_textLine_82 rfl (lv_at hl 2 rfl) ?_
            refine lv_iconst (v := 2) hx hb dX12_textLine_83 (by decide) ?_
            refine mm_finir (va_runV (As := [.int 2]) (rest := [.int y21_0_10_119, .ref a_0]) ⟨hx, hb, hml, hown, hts⟩ (M37_X12_hasRead l G cy H.size a_0 i_0 a_1 a_2 a_3 a_4 a_5 i_1 y21_0_7_116 y21_0_8_117 y21_0_9_118 y21_0_10_119 y21_0_11_120 y21_0_12_121 y21_0_13_122 i_8 i_9 a_6 a_7 a_8 a_9 a_10 a_11 a_12 a_13 a_14 a_15 a_16 a_17 a_18 i_10 i_11 i_12 i_13 i_14 i_15 a_19 i_16 a_20 i_17 i_18 i_19 i_20 i_21 i_22 i_23 i_24 i_25 i_26 i_27 i_28 i_29 i_30 i_31 i_32 i_33 i_34 i_35 i_36 i_37 i_38 i_39 i_40 i_41 i_42 i_43 i_44 i_45 i_46 h6 h7 h8 h9 h10 h11 h12 h13 h14 h15 h16 h17 h18 h19 h20 h21 h22 h23 h24 h25 h26 h27 h28 h29 h30 h31 h32 h33 (mm_wk h34 (by decide)) h35) (cwV 1 hts (mm_gV mm_w503 mm_w504 mm_w505 mm_w5 mm_w506) rfl rfl rfl hd_X12_hasRead ⟨by rw [hRf]; exact Nat.le_of_ble_eq_true rfl, by rw [hRl]; exact Nat.le_of_ble_eq_true rfl⟩) (mm_preV hK hZ hS hA hP hD [0, 2] rfl rfl 0 rfl rfl rfl) rfl rfl hl.1 rfl (lv_room (Nat.le_of_ble_eq_true rfl)) dX12_textLine_84 ⟨by rw [hRc]; exact Nat.le_of_ble_eq_true rfl, by rw [hRs]; exact Nat.le_of_ble_eq_true rfl⟩) hP hD hS hA [0, 2] rfl (fun _ => rfl) ?_
            clear hP hD hS
            clear H locs
            intro v182 _u H locs hw hP hD hS
            subst hw
            refine lv_icmp_gt (tgt := 94) hx hb dX12_textLine_87 (by decide) (fun c183 => ?_) (fun c183 => ?_)
            · have q184 := mm_ltR (lo := 1) (mm_lt c183) h32 (mm_top y21_0_10_119) (by decide)
              refine lv_iconst (v := 2) hx hb dX12_textLine_94 (by decide) ?_
              refine mm_finv (va_runV (As := [.int 2]) (rest := []) ⟨hx, hb, hml, hown, hts⟩ (M29_X12_fails l G cy H.size a_0 i_0 a_1 a_2 a_3 a_4 a_5 i_1 y21_0_7_116 y21_0_8_117 y21_0_9_118 y21_0_10_119 y21_0_11_120 y21_0_12_121 y21_0_13_122 i_8 i_9 a_6 a_7 a_8 a_9 a_10 a_11 a_12 a_13 a_14 a_15 a_16 a_17 a_18 i_10 i_11 i_12 i_13 i_14 i_15 a_19 i_16 a_20 ry21_0_9_118 (mm_wk q144 (by decide))) (cwV 1 hts (mm_gV mm_w483 mm_w484 mm_w485 mm_w5 mm_w486) rfl rfl rfl hd_X12_fails ⟨by rw [hRf]; exact Nat.le_of_ble_eq_true rfl, by rw [hRl]; exact Nat.le_of_ble_eq_true rfl⟩) (mm_preV hK hZ hS hA hP hD [0] rfl rfl 0 rfl rfl rfl) rfl rfl hl.1 rfl (lv_room (Nat.le_of_ble_eq_true rfl)) dX12_textLine_95 ⟨by rw [hRc]; exact Nat.le_of_ble_eq_true rfl, by rw [hRs]; exact Nat.le_of_ble_eq_true rfl⟩) hP hD hS hA (fun u : Int32 × Int32 => [(a_0, .inr (12, [.int i_0, .ref a_1, .ref a_2, .ref a_3, .ref a_4, .ref a_5, .int i_1, .int y21_0_7_116, .int y21_0_8_117, .int y21_0_9_118, .int y21_0_10_119, .long y21_0_11_120, .int u.1, .int u.2, .int i_8, .int i_9, .ref a_6, .ref a_7, .ref a_8, .ref a_9, .ref a_10, .ref a_11, .ref a_12, .ref a_13, .ref a_14, .ref a_15, .ref a_16, .ref a_17, .ref a_18, .int i_10, .int i_11, .int i_12, .int i_13, .int i_14, .int i_15, .ref a_19, .int i_16, .ref a_20])), (a_5, .inl (cy 0, 600, .inl f_0)), (a_7, .inl (cy 1, 30, .inl (mm_g [i_17, i_18, i_19, i_20, i_21, i_22, i_23, i_24, i_25, i_26, i_27, i_28, i_29, i_30, i_31, i_32, i_33, i_34, i_35, i_36, i_37, i_38, i_39, i_40, i_41, i_42, i_43, i_44, i_45, i_46]))), (a_11, .inl (cy 1, 30, .inl g153)), (a_12, .inl (cy 1, 240, .inl g149))]) [0] [1, 2, 3, 4] (n := 5) (fun _ => rfl) (by decide +kernel) (by decide +kernel) rfl (fun _ => rfl) (wr := [(a_5, .inl (cy 0, 600, .inl f_0)), (a_7, .inl (cy 1, 30, .inl (mm_g [i_17, i_18, i_19, i_20, i_21, i_22, i_23, i_24, i_25, i_26, i_27, i_28, i_29, i_30, i_31, i_32, i_33, i_34, i_35, i_36, i_37, i_38, i_39, i_40, i_41, i_42, i_43, i_44, i_45, i_46]))), (a_11, .inl (cy 1, 30, .inl g153)), (a_12, .inl (cy 1, 240, .inl g149))]) rfl (fun _ => rfl) (fun _ => rfl) ?_
              clear hP hD hS
              clear H locs
              intro u
              obtain ⟨n185, n186⟩ := u
              intro H locs hw (hP : va_P G vwCl [(a_0, .inr (12, [.int i_0, .ref a_1, .ref a_2, .ref a_3, .ref a_4, .ref a_5, .int i_1, .int y21_0_7_116, .int y21_0_8_117, .int y21_0_9_118, .int y21_0_10_119, .long y21_0_11_120, .int n185, .int n186, .int i_8, .int i_9, .ref a_6, .ref a_7, .ref a_8, .ref a_9, .ref a_10, .ref a_11, .ref a_12, .ref a_13, .ref a_14, .ref a_15, .ref a_16, .ref a_17, .ref a_18, .int i_10, .int i_11, .int i_12, .int i_13, .int i_14, .int i_15, .ref a_19, .int i_16, .ref a_20])), (a_5, .inl (cy 0, 600, .inl f_0)), (a_7, .inl (cy 1, 30, .inl (mm_g [i_17, i_18, i_19, i_20, i_21, i_22, i_23, i_24, i_25, i_26, i_27, i_28, i_29, i_30, i_31, i_32, i_33, i_34, i_35, i_36, i_37, i_38, i_39, i_40, i_41, i_42, i_43, i_44, i_45, i_46]))), (a_11, .inl (cy 1, 30, .inl g153)), (a_12, .inl (cy 1, 240, .inl g149))] H) (hD : va_D A [(a_0, .inr (12, [.int i_0, .ref a_1, .ref a_2, .ref a_3, .ref a_4, .ref a_5, .int i_1, .int y21_0_7_116, .int y21_0_8_117, .int y21_0_9_118, .int y21_0_10_119, .long y21_0_11_120, .int n185, .int n186, .int i_8, .int i_9, .ref a_6, .ref a_7, .ref a_8, .ref a_9, .ref a_10, .ref a_11, .ref a_12, .ref a_13, .ref a_14, .ref a_15, .ref a_16, .ref a_17, .ref a_18, .int i_10, .int i_11, .int i_12, .int i_13, .int i_14, .int i_15, .ref a_19, .int i_16, .ref a_20])), (a_5, .inl (cy 0, 600, .inl f_0)), (a_7, .inl (cy 1, 30, .inl (mm_g [i_17, i_18, i_19, i_20, i_21, i_22, i_23, i_24, i_25, i_26, i_27, i_28, i_29, i_30, i_31, i_32, i_33, i_34, i_35, i_36, i_37, i_38, i_39, i_40, i_41, i_42, i_43, i_44, i_45, i_46]))), (a_11, .inl (cy 1, 30, .inl g153)), (a_12, .inl (cy 1, 240, .inl g149))]) hS
              have w187 := hw
              refine lv_aload_n hx hb dX12_textLine_98 rfl (lv_at hl 2 rfl) ?_
              refine mm_finir (va_runV (As := []) (rest := []) ⟨hx, hb, hml, hown, hts⟩ (M52_X12_wordHere l G cy H.size a_0 i_0 a_1 a_2 a_3 a_4 a_5 i_1 y21_0_7_116 y21_0_8_117 y21_0_9_118 y21_0_10_119 y21_0_11_120 n185 n186 i_8 i_9 a_6 a_7 a_8 a_9 a_10 a_11 a_12 a_13 a_14 a_15 a_16 a_17 a_18 i_10 i_11 i_12 i_13 i_14 i_15 a_19 i_16 a_20 i_17 i_18 i_19 i_20 i_21 i_22 i_23 i_24 i_25 i_26 i_27 i_28 i_29 i_30 i_31 i_32 i_33 i_34 i_35 i_36 i_37 i_38 i_39 i_40 i_41 i_42 i_43 i_44 i_45 i_46 ry21_0_7_116 (mm_wk q155 (by decide)) ry21_0_9_118 w187 h6 h7 h8 h9 h10 h11 h12 h13 h14 h15 h16 h17 h18 h19 h20 h21 h22 h23 h24 h25 h26 h27 h28 h29 h30 h31 h32 h33 (mm_wk h34 (by decide)) h35 w125 w126 w127) (cwV 0 hts (mm_gV mm_w532 mm_w533 mm_w534 mm_w5 mm_w535) rfl rfl rfl hd_X12_wordHere ⟨by rw [hRf]; exact Nat.le_of_ble_eq_true rfl, by rw [hRl]; exact Nat.le_of_ble_eq_true rfl⟩) (mm_preV hK hZ hS hA hP hD [0, 2] rfl rfl 0 rfl rfl rfl) rfl rfl hl.1 rfl (lv_room (Nat.le_of_ble_eq_true rfl)) dX12_textLine_99 ⟨by rw [hRc]; exact Nat.le_of_ble_eq_true rfl, by rw [hRs]; exact Nat.le_of_ble_eq_true rfl⟩) hP hD hS hA [0, 2] rfl (fun _ => rfl) ?_
              clear hP hD hS
              clear H locs
              intro v188 _u H locs hw hP hD hS
              obtain ⟨rfl, w189, w190⟩ := hw
              refine lv_istore_n (lv' := [(2, .int 0), (1, .int v2), (0, .ref a_0)]) hx hb dX12_textLine_102 rfl hl (by decide) rfl ?_
              clear hl
              clear ls
              intro ls hl
              refine lv_goto (tgt := 21) hx hb dX12_textLine_103 (by decide) ?_
              exact ih21 0 y21_0_7_116 y21_0_8_117 y21_0_9_118 y21_0_10_119 y21_0_11_120 n185 n186 g153 g149 (mm_wk mm_k0 (by decide)) ry21_0_7_116 (mm_wk q155 (by decide)) ry21_0_9_118 (mm_wk w187 (by decide)) rg153 rg149 w125 w126 w127 w128 (mm_b7_n w187 (by decide)) (mm_fr_u w130 eg153 rv2 (by decide)) (mm_fr_u w131 eg149 rv148 (by decide)) (mm_txl_s w132 eg153 eg149 ev146 tv152 (by have := tv148; have := tv145; omega) w133 rx21_2_115 q181 rv2 (by decide)) w189 (mm_tmM hm21 q144 ev146 eg153 tv152 q181 (by decide)) H locs hP hD hS ls (lv_sub hl [0, 1, 2] rfl)
            · have q191 := mm_leL (mm_nlt c183) (mm_top y21_0_10_119) h32
              refine lv_iconst (v := 3) hx hb dX12_textLine_90 (by decide) ?_
              refine lv_goto (tgt := 95) hx hb dX12_textLine_91 (by decide) ?_
              refine mm_finv (va_runV (As := [.int 3]) (rest := []) ⟨hx, hb, hml, hown, hts⟩ (M45_X12_fails l G cy H.size a_0 i_0 a_1 a_2 a_3 a_4 a_5 i_1 y21_0_7_116 y21_0_8_117 y21_0_9_118 y21_0_10_119 y21_0_11_120 y21_0_12_121 y21_0_13_122 i_8 i_9 a_6 a_7 a_8 a_9 a_10 a_11 a_12 a_13 a_14 a_15 a_16 a_17 a_18 i_10 i_11 i_12 i_13 i_14 i_15 a_19 i_16 a_20 ry21_0_9_118 (mm_wk q144 (by decide))) (cwV 1 hts (mm_gV mm_w483 mm_w484 mm_w485 mm_w5 mm_w486) rfl rfl rfl hd_X12_fails ⟨by rw [hRf]; exact Nat.le_of_ble_eq_true rfl, by rw [hRl]; exact Nat.le_of_ble_eq_true rfl⟩) (mm_preV hK hZ hS hA hP hD [0] rfl rfl 0 rfl rfl rfl) rfl rfl hl.1 rfl (lv_room (Nat.le_of_ble_eq_true rfl)) dX12_textLine_95 ⟨by rw [hRc]; exact Nat.le_of_ble_eq_true rfl, by rw [hRs]; exact Nat.le_of_ble_eq_true rfl⟩) hP hD hS hA (fun u : Int32 × Int32 => [(a_0, .inr (12, [.int i_0, .ref a_1, .ref a_2, .ref a_3, .ref a_4, .ref a_5, .int i_1, .int y21_0_7_116, .int y21_0_8_117, .int y21_0_9_118, .int y21_0_10_119, .long y21_0_11_120, .int u.1, .int u.2, .int i_8, .int i_9, .ref a_6, .ref a_7, .ref a_8, .ref a_9, .ref a_10, .ref a_11, .ref a_12, .ref a_13, .ref a_14, .ref a_15, .ref a_16, .ref a_17, .ref a_18, .int i_10, .int i_11, .int i_12, .int i_13, .int i_14, .int i_15, .ref a_19, .int i_16, .ref a_20])), (a_5, .inl (cy 0, 600, .inl f_0)), (a_7, .inl (cy 1, 30, .inl (mm_g [i_17, i_18, i_19, i_20, i_21, i_22, i_23, i_24, i_25, i_26, i_27, i_28, i_29, i_30, i_31, i_32, i_33, i_34, i_35, i_36, i_37, i_38, i_39, i_40, i_41, i_42, i_43, i_44, i_45, i_46]))), (a_11, .inl (cy 1, 30, .inl g153)), (a_12, .inl (cy 1, 240, .inl g149))]) [0] [1, 2, 3, 4] (n := 5) (fun _ => rfl) (by decide +kernel) (by decide +kernel) rfl (fun _ => rfl) (wr := [(a_5, .inl (cy 0, 600, .inl f_0)), (a_7, .inl (cy 1, 30, .inl (mm_g [i_17, i_18, i_19, i_20, i_21, i_22, i_23, i_24, i_25, i_26, i_27, i_28, i_29, i_30, i_31, i_32, i_33, i_34, i_35, i_36, i_37, i_38, i_39, i_40, i_41, i_42, i_43, i_44, i_45, i_46]))), (a_11, .inl (cy 1, 30, .inl g153)), (a_12, .inl (cy 1, 240, .inl g149))]) rfl (fun _ => rfl) (fun _ => rfl) ?_
              clear hP hD hS
              clear H locs
              intro u
              obtain ⟨n192, n193⟩ := u
              intro H locs hw (hP : va_P G vwCl [(a_0, .inr (12, [.int i_0, .ref a_1, .ref a_2, .ref a_3, .ref a_4, .ref a_5, .int i_1, .int y21_0_7_116, .int y21_0_8_117, .int y21_0_9_118, .int y21_0_10_119, .long y21_0_11_120, .int n192, .int n193, .int i_8, .int i_9, .ref a_6, .ref a_7, .ref a_8, .ref a_9, .ref a_10, .ref a_11, .ref a_12, .ref a_13, .ref a_14, .ref a_15, .ref a_16, .ref a_17, .ref a_18, .int i_10, .int i_11, .int i_12, .int i_13, .int i_14, .int i_15, .ref a_19, .int i_16, .ref a_20])), (a_5, .inl (cy 0, 600, .inl f_0)), (a_7, .inl (cy 1, 30, .inl (mm_g [i_17, i_18, i_19, i_20, i_21, i_22, i_23, i_24, i_25, i_26, i_27, i_28, i_29, i_30, i_31, i_32, i_33, i_34, i_35, i_36, i_37, i_38, i_39, i_40, i_41, i_42, i_43, i_44, i_45, i_46]))), (a_11, .inl (cy 1, 30, .inl g153)), (a_12, .inl (cy 1, 240, .inl g149))] H) (hD : va_D A [(a_0, .inr (12, [.int i_0, .ref a_1, .ref a_2, .ref a_3, .ref a_4, .ref a_5, .int i_1, .int y21_0_7_116, .int y21_0_8_117, .int y21_0_9_118, .int y21_0_10_119, .long y21_0_11_120, .int n192, .int n193, .int i_8, .int i_9, .ref a_6, .ref a_7, .ref a_8, .ref a_9, .ref a_10, .ref a_11, .ref a_12, .ref a_13, .ref a_14, .ref a_15, .ref a_16, .ref a_17, .ref a_18, .int i_10, .int i_11, .int i_12, .int i_13, .int i_14, .int i_15, .ref a_19, .int i_16, .ref a_20])), (a_5, .inl (cy 0, 600, .inl f_0)), (a_7, .inl (cy 1, 30, .inl (mm_g [i_17, i_18, i_19, i_20, i_21, i_22, i_23, i_24, i_25, i_26, i_27, i_28, i_29, i_30, i_31, i_32, i_33, i_34, i_35, i_36, i_37, i_38, i_39, i_40, i_41, i_42, i_43, i_44, i_45, i_46]))), (a_11, .inl (cy 1, 30, .inl g153)), (a_12, .inl (cy 1, 240, .inl g149))]) hS
              have w194 := hw
              refine lv_aload_n hx hb dX12_textLine_98 rfl (lv_at hl 2 rfl) ?_
              refine mm_finir (va_runV (As := []) (rest := []) ⟨hx, hb, hml, hown, hts⟩ (M52_X12_wordHere l G cy H.size a_0 i_0 a_1 a_2 a_3 a_4 a_5 i_1 y21_0_7_116 y21_0_8_117 y21_0_9_118 y21_0_10_119 y21_0_11_120 n192 n193 i_8 i_9 a_6 a_7 a_8 a_9 a_10 a_11 a_12 a_13 a_14 a_15 a_16 a_17 a_18 i_10 i_11 i_12 i_13 i_14 i_15 a_19 i_16 a_20 i_17 i_18 i_19 i_20 i_21 i_22 i_23 i_24 i_25 i_26 i_27 i_28 i_29 i_30 i_31 i_32 i_33 i_34 i_35 i_36 i_37 i_38 i_39 i_40 i_41 i_42 i_43 i_44 i_45 i_46 ry21_0_7_116 (mm_wk q155 (by decide)) ry21_0_9_118 w194 h6 h7 h8 h9 h10 h11 h12 h13 h14 h15 h16 h17 h18 h19 h20 h21 h22 h23 h24 h25 h26 h27 h28 h29 h30 h31 h32 h33 (mm_wk h34 (by decide)) h35 w125 w126 w127) (cwV 0 hts (mm_gV mm_w532 mm_w533 mm_w534 mm_w5 mm_w535) rfl rfl rfl hd_X12_wordHere ⟨by rw [hRf]; exact Nat.le_of_ble_eq_true rfl, by rw [hRl]; exact Nat.le_of_ble_eq_true rfl⟩) (mm_preV hK hZ hS hA hP hD [0, 2] rfl rfl 0 rfl rfl rfl) rfl rfl hl.1 rfl (lv_room (Nat.le_of_ble_eq_true rfl)) dX12_textLine_99 ⟨by rw [hRc]; exact Nat.le_of_ble_eq_true rfl, by rw [hRs]; exact Nat.le_of_ble_eq_true rfl⟩) hP hD hS hA [0, 2] rfl (fun _ => rfl) ?_
              clear hP hD hS
              clear H locs
              intro v195 _u H locs hw hP hD hS
              obtain ⟨rfl, w196, w197⟩ := hw
              refine lv_istore_n (lv' := [(2, .int 0), (1, .int v2), (0, .ref a_0)]) hx hb dX12_textLine_102 rfl hl (by decide) rfl ?_
              clear hl
              clear ls
              intro ls hl
              refine lv_goto (tgt := 21) hx hb dX12_textLine_103 (by decide) ?_
              exact ih21 0 y21_0_7_116 y21_0_8_117 y21_0_9_118 y21_0_10_119 y21_0_11_120 n192 n193 g153 g149 (mm_wk mm_k0 (by decide)) ry21_0_7_116 (mm_wk q155 (by decide)) ry21_0_9_118 (mm_wk w194 (by decide)) rg153 rg149 w125 w126 w127 w128 (mm_b7_n w194 (by decide)) (mm_fr_u w130 eg153 rv2 (by decide)) (mm_fr_u w131 eg149 rv148 (by decide)) (mm_txl_s w132 eg153 eg149 ev146 tv152 (by have := tv148; have := tv145; omega) w133 rx21_2_115 q181 rv2 (by decide)) w196 (mm_tmM hm21 q144 ev146 eg153 tv152 q181 (by decide)) H locs hP hD hS ls (lv_sub hl [0, 1, 2] rfl)
        · refine lv_goto (tgt := 106) hx hb dX12_textLine_63 (by decide) ?_
          refine lv_aload_n hx hb dX12_textLine_106 rfl (lv_at hl 2 rfl) ?_
          refine lv_iconst (v := 4) hx hb dX12_textLine_107 (by decide) ?_
          refine lv_aload_n hx hb dX12_textLine_108 rfl (lv_at hl 2 rfl) ?_
          refine lv_iconst (v := 4) hx hb dX12_textLine_109 (by decide) ?_
          refine mm_finir (va_runV (As := [.int 4]) (rest := [.int 4, .ref a_0]) ⟨hx, hb, hml, hown, hts⟩ (M43_X12_hasRead l G cy H.size a_0 i_0 a_1 a_2 a_3 a_4 a_5 i_1 y21_0_7_116 y21_0_8_117 y21_0_9_118 y21_0_10_119 y21_0_11_120 y21_0_12_121 y21_0_13_122 i_8 i_9 a_6 a_7 a_8 a_9 a_10 a_11 a_12 a_13 a_14 a_15 a_16 a_17 a_18 i_10 i_11 i_12 i_13 i_14 i_15 a_19 i_16 a_20 i_17 i_18 i_19 i_20 i_21 i_22 i_23 i_24 i_25 i_26 i_27 i_28 i_29 i_30 i_31 i_32 i_33 i_34 i_35 i_36 i_37 i_38 i_39 i_40 i_41 i_42 i_43 i_44 i_45 i_46 h6 h7 h8 h9 h10 h11 h12 h13 h14 h15 h16 h17 h18 h19 h20 h21 h22 h23 h24 h25 h26 h27 h28 h29 h30 h31 h32 h33 (mm_wk h34 (by decide)) h35) (cwV 1 hts (mm_gV mm_w503 mm_w504 mm_w505 mm_w5 mm_w506) rfl rfl rfl hd_X12_hasRead ⟨by rw [hRf]; exact Nat.le_of_ble_eq_true rfl, by rw [hRl]; exact Nat.le_of_ble_eq_true rfl⟩) (mm_preV hK hZ hS hA hP hD [0, 2] rfl rfl 0 rfl rfl rfl) rfl rfl hl.1 rfl (lv_room (Nat.le_of_ble_eq_true rfl)) dX12_textLine_110 ⟨by rw [hRc]; exact Nat.le_of_ble_eq_true rfl, by rw [hRs]; exact Nat.le_of_ble_eq_true rfl⟩) hP hD hS hA [0, 2] rfl (fun _ => rfl) ?_
          clear hP hD hS
          clear H locs
          intro v198 _u H locs hw hP hD hS
          subst hw
          refine lv_iconst (v := 1) hx hb dX12_textLine_113 (by decide) ?_
          refine lv_iadd hx hb dX12_textLine_114 ?_
          refine lv_topi (fun v199 ev199 => ?_)
          have rv199 : mm_rg v199 1 1 := mm_add ev199 h34 mm_k1 (by decide) (by decide)
          have tv199 := mm_addEc ev199 h34 mm_k1 (by decide) (k := 1) (by decide)
          refine mm_finv (va_runV (As := [.int 4, .int v199]) (rest := []) ⟨hx, hb, hml, hown, hts⟩ (M75_X12_tells l G cy H.size a_0 v199 i_0 a_1 a_2 a_3 a_4 a_5 i_1 y21_0_7_116 y21_0_8_117 y21_0_9_118 y21_0_10_119 y21_0_11_120 y21_0_12_121 y21_0_13_122 i_8 i_9 a_6 a_7 a_8 a_9 a_10 a_11 a_12 a_13 a_14 a_15 a_16 a_17 a_18 i_10 i_11 i_12 i_13 i_14 i_15 a_19 i_16 a_20 i_17 i_18 i_19 i_20 i_21 i_22 i_23 i_24 i_25 i_26 i_27 i_28 i_29 i_30 i_31 i_32 i_33 i_34 i_35 i_36 i_37 i_38 i_39 i_40 i_41 i_42 i_43 i_44 i_45 i_46 rv199 h6 h7 h8 h9 h10 h11 h12 h13 h14 h15 h16 h17 h18 h19 h20 h21 h22 h23 h24 h25 h26 h27 h28 h29 h30 h31 h32 h33 (mm_wk h34 (by decide)) h35) (cwV 2 hts (mm_gV mm_w441 mm_w442 mm_w443 mm_w5 mm_w444) rfl rfl rfl hd_X12_tells ⟨by rw [hRf]; exact Nat.le_of_ble_eq_true rfl, by rw [hRl]; exact Nat.le_of_ble_eq_true rfl⟩) (mm_preV hK hZ hS hA hP hD [0, 2] rfl rfl 0 rfl rfl rfl) rfl rfl hl.1 rfl (lv_room (Nat.le_of_ble_eq_true rfl)) dX12_textLine_115 ⟨by rw [hRc]; exact Nat.le_of_ble_eq_true rfl, by rw [hRs]; exact Nat.le_of_ble_eq_true rfl⟩) hP hD hS hA (fun u : Unit => [(a_0, .inr (12, [.int i_0, .ref a_1, .ref a_2, .ref a_3, .ref a_4, .ref a_5, .int i_1, .int y21_0_7_116, .int y21_0_8_117, .int y21_0_9_118, .int y21_0_10_119, .long y21_0_11_120, .int y21_0_12_121, .int y21_0_13_122, .int i_8, .int i_9, .ref a_6, .ref a_7, .ref a_8, .ref a_9, .ref a_10, .ref a_11, .ref a_12, .ref a_13, .ref a_14, .ref a_15, .ref a_16, .ref a_17, .ref a_18, .int i_10, .int i_11, .int i_12, .int i_13, .int i_14, .int i_15, .ref a_19, .int i_16, .ref a_20])), (a_5, .inl (cy 0, 600, .inl f_0)), (a_7, .inl (cy 1, 30, .inl (mm_g [i_17, i_18, i_19, i_20, i_21, i_22, i_23, i_24, i_25, i_26, i_27, i_28, i_29, i_30, i_31, i_32, i_33, i_34, i_35, i_36, i_37, i_38, i_39, i_40, i_41, i_42, i_43, i_44, v199, i_46]))), (a_11, .inl (cy 1, 30, .inl g153)), (a_12, .inl (cy 1, 240, .inl g149))]) [0, 2] [1, 3, 4] (n := 5) (fun _ => rfl) (by decide +kernel) (by decide +kernel) rfl (fun _ => rfl) (wr := [(a_5, .inl (cy 0, 600, .inl f_0)), (a_11, .inl (cy 1, 30, .inl g153)), (a_12, .inl (cy 1, 240, .inl g149))]) rfl (fun _ => rfl) (fun _ => @rfl _ ([a_0, a_7] : List Nat)) ?_
          clear hP hD hS
          clear H locs
          intro _u H locs hw (hP : va_P G vwCl [(a_0, .inr (12, [.int i_0, .ref a_1, .ref a_2, .ref a_3, .ref a_4, .ref a_5, .int i_1, .int y21_0_7_116, .int y21_0_8_117, .int y21_0_9_118, .int y21_0_10_119, .long y21_0_11_120, .int y21_0_12_121, .int y21_0_13_122, .int i_8, .int i_9, .ref a_6, .ref a_7, .ref a_8, .ref a_9, .ref a_10, .ref a_11, .ref a_12, .ref a_13, .ref a_14, .ref a_15, .ref a_16, .ref a_17, .ref a_18, .int i_10, .int i_11, .int i_12, .int i_13, .int i_14, .int i_15, .ref a_19, .int i_16, .ref a_20])), (a_5, .inl (cy 0, 600, .inl f_0)), (a_7, .inl (cy 1, 30, .inl (mm_g [i_17, i_18, i_19, i_20, i_21, i_22, i_23, i_24, i_25, i_26, i_27, i_28, i_29, i_30, i_31, i_32, i_33, i_34, i_35, i_36, i_37, i_38, i_39, i_40, i_41, i_42, i_43, i_44, v199, i_46]))), (a_11, .inl (cy 1, 30, .inl g153)), (a_12, .inl (cy 1, 240, .inl g149))] H) (hD : va_D A [(a_0, .inr (12, [.int i_0, .ref a_1, .ref a_2, .ref a_3, .ref a_4, .ref a_5, .int i_1, .int y21_0_7_116, .int y21_0_8_117, .int y21_0_9_118, .int y21_0_10_119, .long y21_0_11_120, .int y21_0_12_121, .int y21_0_13_122, .int i_8, .int i_9, .ref a_6, .ref a_7, .ref a_8, .ref a_9, .ref a_10, .ref a_11, .ref a_12, .ref a_13, .ref a_14, .ref a_15, .ref a_16, .ref a_17, .ref a_18, .int i_10, .int i_11, .int i_12, .int i_13, .int i_14, .int i_15, .ref a_19, .int i_16, .ref a_20])), (a_5, .inl (cy 0, 600, .inl f_0)), (a_7, .inl (cy 1, 30, .inl (mm_g [i_17, i_18, i_19, i_20, i_21, i_22, i_23, i_24, i_25, i_26, i_27, i_28, i_29, i_30, i_31, i_32, i_33, i_34, i_35, i_36, i_37, i_38, i_39, i_40, i_41, i_42, i_43, i_44, v199, i_46]))), (a_11, .inl (cy 1, 30, .inl g153)), (a_12, .inl (cy 1, 240, .inl g149))]) hS
          have w200 : mm_txs g153 g149 0 i_19 i_21 := (mm_txs_fr h38 (mm_fr_u w130 eg153 rv2 (by decide)) (mm_fr_u w131 eg149 rv148 (by decide)) (by decide))
          have w201 : mm_txs g153 g149 1 i_25 i_27 := (mm_txs_fr h39 (mm_fr_u w130 eg153 rv2 (by decide)) (mm_fr_u w131 eg149 rv148 (by decide)) (by decide))
          have w202 : mm_txs g153 g149 2 i_31 i_33 := (mm_txs_fr h40 (mm_fr_u w130 eg153 rv2 (by decide)) (mm_fr_u w131 eg149 rv148 (by decide)) (by decide))
          have w203 : mm_txs g153 g149 3 i_37 i_39 := (mm_txs_fr h41 (mm_fr_u w130 eg153 rv2 (by decide)) (mm_fr_u w131 eg149 rv148 (by decide)) (by decide))
          have w204 : mm_txs g153 g149 4 i_43 v199 := (mm_txs_t h45 (mm_txl_s w132 eg153 eg149 ev146 tv152 (by have := tv148; have := tv145; omega) w133 rx21_2_115 q147 rv2 (by decide)) (by have := tv2; omega) (by have := tv199; omega) h34 (by decide))
          have w205 : mm_fr f_1 g153 24 := (mm_fr_u w130 eg153 rv2 (by decide))
          have w206 : mm_fr f_2 g149 192 := (mm_fr_u w131 eg149 rv148 (by decide))
          subst hAe
          rw [hQ]
          exact W.vret hx hb hr (fun t ht hW => ⟨⟨(y21_0_7_116, y21_0_8_117, y21_0_9_118, y21_0_10_119, y21_0_11_120, y21_0_12_121, y21_0_13_122, v199, g153, g149), rfl, ⟨ry21_0_7_116, ry21_0_8_117, ry21_0_9_118, (mm_wk q144 (by decide)), rv199, rg153, rg149, w200, w201, w202, w203, w125, w126, w127, w128, w204, w205, w206⟩, by rw [ht]; exact hP, hK.warm hW, hD⟩, hS.F ht⟩) hS.2.2 dX12_textLine_118
  exact L21_133 _ v11 n4 n5 n6 n7 n8 n9 n10 g3 f_2 w21 w12 w13 w14 w15 rg3 h37 w16 w17 w18 w19 (mm_b7_u eg3 mm_k0 (by decide)) (mm_fr_u (mm_fr_r _ _) eg3 rv2 (by decide)) (mm_fr_r _ _) (mm_txl_0 eg3) w22 (Nat.lt_succ_self _) H locs hP hD hS ls (lv_sub hl [0, 1, 2] rfl)

